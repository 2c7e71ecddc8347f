theorem dX7_parent_0 : decode cX7_parent 0 = .ok (.aload_n 0, 1) := by decide +kernel
theorem dX7_parent_1 : decode cX7_parent 1 = .ok (.iload_n 1, 1) := by decide +kernel
theorem dX7_parent_2 : decode cX7_parent 2 = .ok (.iload_n 2, 1) := by decide +kernel
set_option maxRecDepth 20000 in
theorem ggX7_parent_X7_treeWith : GoodIn wsX7_parent wsX7_treeWith := goodIn_ca (goodIn_r _ [8, 9, 10, 11, 12, 13, 7, 14, 15, 16, 17, 18, 19, 20, 21, 29, 30, 31, 32, 33, 34, 35, 36, 37, 38, 22, 23, 24, 25, 26, 27, 28] (by decide +kernel) (by decide +kernel)) (goodIn_sub (fun _ h => List.mem_cons_of_mem _ (List.mem_append_right _ h)) (by decide +kernel))
set_option maxRecDepth 20000 in
theorem gX7_parent_X7_treeWith : GoodIn wsX7_parent (wsV RX7 146 RX7 yX7_treeWith wsX7_treeWith) := goodIn_app (goodIn_of _ (by decide +kernel)) ggX7_parent_X7_treeWith
theorem dX7_parent_3 : decode cX7_parent 3 = .ok (.invokevirtual 146, 3) := by decide +kernel
theorem dL_parent_0 : decode cL_parent 0 = .ok (.aload_n 3, 1) := by decide +kernel
theorem dL_parent_1 : decode cL_parent 1 = .ok (.iconst 0, 1) := by decide +kernel
theorem dL_parent_2 : decode cL_parent 2 = .ok (.aload_n 0, 1) := by decide +kernel
theorem dL_parent_3 : decode cL_parent 3 = .ok (.iload_n 1, 1) := by decide +kernel
theorem dL_parent_4 : decode cL_parent 4 = .ok (.iload_n 2, 1) := by decide +kernel
set_option maxRecDepth 20000 in
theorem ggL_parent_X7_parent : GoodIn wsL_parent wsX7_parent := goodIn_ca (goodIn_ca (goodIn_r _ [7, 8, 9, 10, 11, 12, 13, 6, 14, 15, 16, 17, 18, 19, 20, 21, 22, 23, 24, 25, 26, 27, 28, 29, 30, 31, 32, 33, 34, 35, 36, 37, 38, 39, 40, 41, 42, 43, 44] (by decide +kernel) (by decide +kernel)) (goodIn_sub (fun _ h => List.mem_cons_of_mem _ (List.mem_append_left _ (List.mem_append_right _ h))) (by decide +kernel))) (goodIn_sub (fun _ h => List.mem_cons_of_mem _ (List.mem_append_right _ h)) (by decide +kernel))
set_option maxRecDepth 20000 in
theorem gL_parent_X7_parent : GoodIn wsL_parent (wsV RL 79 RX7 yX7_parent wsX7_parent) := goodIn_app (goodIn_of _ (by decide +kernel)) ggL_parent_X7_parent
theorem dL_parent_5 : decode cL_parent 5 = .ok (.invokevirtual 79, 3) := by decide +kernel
theorem dL_parent_13 : decode cL_parent 13 = .ok (.astore 4, 2) := by decide +kernel
theorem dL_parent_15 : decode cL_parent 15 = .ok (.iconst 1, 1) := by decide +kernel
theorem dL_parent_16 : decode cL_parent 16 = .ok (.ireturn, 1) := by decide +kernel
theorem dX10_parent_0 : decode cX10_parent 0 = .ok (.aload_n 0, 1) := by decide +kernel
theorem dX10_parent_1 : decode cX10_parent 1 = .ok (.iload_n 1, 1) := by decide +kernel
theorem dX10_parent_2 : decode cX10_parent 2 = .ok (.iload_n 2, 1) := by decide +kernel
set_option maxRecDepth 20000 in
theorem ggX10_parent_X10_isNowhere : GoodIn wsX10_parent wsX10_isNowhere := goodIn_r _ [6, 7, 8, 9, 10, 5, 11, 1, 12, 13, 14, 15, 16, 17, 22, 23, 24, 25, 26, 27, 28, 29, 30, 31, 32, 33, 34, 35, 36, 37, 38, 39, 40, 41, 42, 43, 44, 45, 46, 47, 48, 49, 50, 51, 52, 53, 54, 55, 56, 57] (by decide +kernel) (by decide +kernel)
set_option maxRecDepth 20000 in
theorem gX10_parent_X10_isNowhere : GoodIn wsX10_parent (wsV RX10 202 RX10 yX10_isNowhere wsX10_isNowhere) := goodIn_app (goodIn_of _ (by decide +kernel)) ggX10_parent_X10_isNowhere
theorem dX10_parent_3 : decode cX10_parent 3 = .ok (.invokevirtual 202, 3) := by decide +kernel
theorem dX10_parent_6 : decode cX10_parent 6 = .ok (.ifCond .eq 5, 3) := by decide +kernel
theorem dX10_parent_9 : decode cX10_parent 9 = .ok (.iconst 0, 1) := by decide +kernel
theorem dX10_parent_10 : decode cX10_parent 10 = .ok (.ireturn, 1) := by decide +kernel
theorem dX7_parent_6 : decode cX7_parent 6 = .ok (.astore_n 3, 1) := by decide +kernel
theorem dX7_parent_7 : decode cX7_parent 7 = .ok (.iload_n 2, 1) := by decide +kernel
theorem dX7_parent_8 : decode cX7_parent 8 = .ok (.ifCond .ne 13, 3) := by decide +kernel
theorem dX7_parent_11 : decode cX7_parent 11 = .ok (.new 110, 3) := by decide +kernel
theorem dX7_parent_14 : decode cX7_parent 14 = .ok (.dup, 1) := by decide +kernel
theorem dX7_parent_15 : decode cX7_parent 15 = .ok (.ldc 216, 2) := by decide +kernel
theorem dX7_parent_17 : decode cX7_parent 17 = .ok (.invokespecial 114, 3) := by decide +kernel
theorem dX7_parent_20 : decode cX7_parent 20 = .ok (.athrow, 1) := by decide +kernel
theorem dL_parent_17 : decode cL_parent 17 = .ok (.astore 4, 2) := by decide +kernel
theorem dL_parent_19 : decode cL_parent 19 = .ok (.iconst 2, 1) := by decide +kernel
theorem dL_parent_20 : decode cL_parent 20 = .ok (.ireturn, 1) := by decide +kernel
theorem dX10_parent_11 : decode cX10_parent 11 = .ok (.iload_n 2, 1) := by decide +kernel
theorem dX10_parent_12 : decode cX10_parent 12 = .ok (.ifCond .ne 11, 3) := by decide +kernel
theorem dX10_parent_15 : decode cX10_parent 15 = .ok (.aload_n 0, 1) := by decide +kernel
theorem dX10_parent_16 : decode cX10_parent 16 = .ok (.iconst 2, 1) := by decide +kernel
set_option maxRecDepth 20000 in
theorem ggX10_parent_X10_fails : GoodIn wsX10_parent wsX10_fails := goodIn_r _ [21, 7, 22, 23, 24, 25, 26, 27, 28, 29, 30, 31, 32, 33, 34, 35, 36, 37, 38, 39, 40, 41, 42, 43, 44, 45, 46, 47, 48, 49, 50, 51, 52] (by decide +kernel) (by decide +kernel)
set_option maxRecDepth 20000 in
theorem gX10_parent_X10_fails : GoodIn wsX10_parent (wsV RX10 126 RX10 yX10_fails wsX10_fails) := goodIn_app (goodIn_of _ (by decide +kernel)) ggX10_parent_X10_fails
theorem dX10_parent_17 : decode cX10_parent 17 = .ok (.invokevirtual 126, 3) := by decide +kernel
theorem dX10_parent_20 : decode cX10_parent 20 = .ok (.goto 14, 3) := by decide +kernel
theorem dX10_parent_34 : decode cX10_parent 34 = .ok (.ireturn, 1) := by decide +kernel
theorem dL_law_1330 : decode cL_law 1330 = .ok (.aload_n 1, 1) := by decide +kernel
theorem dL_law_1331 : decode cL_law 1331 = .ok (.aload_n 0, 1) := by decide +kernel
theorem dL_law_1332 : decode cL_law 1332 = .ok (.iload 5, 2) := by decide +kernel
theorem dL_law_1334 : decode cL_law 1334 = .ok (.iconst 1, 1) := by decide +kernel
theorem dL_law_1335 : decode cL_law 1335 = .ok (.iadd, 1) := by decide +kernel
theorem dL_law_1336 : decode cL_law 1336 = .ok (.iaload, 1) := by decide +kernel
theorem dL_law_1337 : decode cL_law 1337 = .ok (.aload_n 0, 1) := by decide +kernel
theorem dL_law_1338 : decode cL_law 1338 = .ok (.iload 5, 2) := by decide +kernel
theorem dL_law_1340 : decode cL_law 1340 = .ok (.iconst 2, 1) := by decide +kernel
theorem dL_law_1341 : decode cL_law 1341 = .ok (.iadd, 1) := by decide +kernel
theorem dL_law_1342 : decode cL_law 1342 = .ok (.iaload, 1) := by decide +kernel
theorem dL_law_1343 : decode cL_law 1343 = .ok (.aload_n 3, 1) := by decide +kernel
set_option maxRecDepth 20000 in
theorem ggL_law_L_parent : GoodIn wsL_law wsL_parent := goodIn_ca (goodIn_ca (goodIn_r _ [834, 185, 294, 835, 836, 837, 2, 838, 299, 300, 737, 637, 638, 639, 640, 200, 201, 196, 197, 198, 199, 15, 641, 642, 643, 44, 644, 63, 1530, 1531, 1532, 1533, 1534, 1535, 1536, 1458, 1459, 1460, 1461, 1462, 1463, 1464, 1465, 1466, 1467] (by decide +kernel) (by decide +kernel)) (goodIn_sub (fun _ h => List.mem_append_left _ (List.mem_append_right _ h)) (by decide +kernel))) (goodIn_sub (fun _ h => List.mem_append_left _ (List.mem_append_left _ (List.mem_append_right _ h))) (by decide +kernel))
set_option maxRecDepth 20000 in
theorem gL_law_L_parent : GoodIn wsL_law (va_wsS RL 213 yL_parent wsL_parent) := goodIn_app (goodIn_of _ (by decide +kernel)) ggL_law_L_parent
theorem dL_law_1344 : decode cL_law 1344 = .ok (.invokestatic 213, 3) := by decide +kernel
theorem dL_law_1347 : decode cL_law 1347 = .ok (.istore 6, 2) := by decide +kernel
theorem dL_law_1349 : decode cL_law 1349 = .ok (.aload_n 2, 1) := by decide +kernel
theorem dL_law_1350 : decode cL_law 1350 = .ok (.aload_n 0, 1) := by decide +kernel
theorem dL_law_1351 : decode cL_law 1351 = .ok (.iload 5, 2) := by decide +kernel
theorem dL_law_1353 : decode cL_law 1353 = .ok (.iconst 1, 1) := by decide +kernel
theorem dL_law_1354 : decode cL_law 1354 = .ok (.iadd, 1) := by decide +kernel
theorem dL_law_1355 : decode cL_law 1355 = .ok (.iaload, 1) := by decide +kernel
theorem dL_law_1356 : decode cL_law 1356 = .ok (.aload_n 0, 1) := by decide +kernel
theorem dL_law_1357 : decode cL_law 1357 = .ok (.iload 5, 2) := by decide +kernel
theorem dL_law_1359 : decode cL_law 1359 = .ok (.iconst 2, 1) := by decide +kernel
theorem dL_law_1360 : decode cL_law 1360 = .ok (.iadd, 1) := by decide +kernel
theorem dL_law_1361 : decode cL_law 1361 = .ok (.iaload, 1) := by decide +kernel
set_option maxRecDepth 20000 in
theorem ggL_law_X10_parent : GoodIn wsL_law wsX10_parent := goodIn_r _ [842, 114, 679, 680, 681, 5, 682, 172, 683, 684, 685, 686, 259, 260, 261, 262, 263, 264, 174, 175, 176, 177, 1468, 1469, 1470, 1471, 1472, 1473, 1474, 1475, 1476, 1477, 1478, 1479, 1480, 1481, 1482, 1483, 1484, 1485, 1486, 1487, 1488, 1489, 1490, 1491, 1492, 1493, 1494, 1495, 1496, 1497, 1498, 1537, 1538, 1539, 1540, 1541] (by decide +kernel) (by decide +kernel)
set_option maxRecDepth 20000 in
theorem gL_law_X10_parent : GoodIn wsL_law (wsV RL 215 RX10 yX10_parent wsX10_parent) := goodIn_app (goodIn_of _ (by decide +kernel)) ggL_law_X10_parent
theorem dL_law_1362 : decode cL_law 1362 = .ok (.invokevirtual 215, 3) := by decide +kernel
theorem dL_law_1365 : decode cL_law 1365 = .ok (.istore 7, 2) := by decide +kernel
theorem dL_law_1367 : decode cL_law 1367 = .ok (.aload_n 2, 1) := by decide +kernel
theorem dL_law_1368 : decode cL_law 1368 = .ok (.invokevirtual 156, 3) := by decide +kernel
theorem dL_law_1371 : decode cL_law 1371 = .ok (.iload 6, 2) := by decide +kernel
theorem dL_law_1373 : decode cL_law 1373 = .ok (.if_icmp .eq 5, 3) := by decide +kernel
theorem dL_law_1378 : decode cL_law 1378 = .ok (.iload 6, 2) := by decide +kernel
theorem dL_law_1380 : decode cL_law 1380 = .ok (.ifCond .ne 15, 3) := by decide +kernel
theorem dL_law_1395 : decode cL_law 1395 = .ok (.goto 1255, 3) := by decide +kernel
variable {l : Launch} {N0 : Nat} {D : va_G} {cI cC cL cD cII cTr cTm cIt cB : ClassId} {F : Nat → Option va_E} {ql : Nat → Nat}
theorem k690_X7_parent {n : Nat} {a1 : Int32} {a2 : Int32} (g_a1_le_m1 : a1 ≤ (-1)) (hst : l.stackTraces = false) (hn : N0 + 231 ≤ n) (h0 : F N0 = some (.inr (9, [.ref (N0 + 1), .ref (N0 + 2), .ref (N0 + 11), .ref (N0 + 13), .ref (N0 + 63), .ref (N0 + 65), .ref (N0 + 85), .int (-1), .int (-1), .int 32]))) : vx_Met l yX7_parent wsX7_parent ({ frames := 8, cells := 1, slots := 6, locals := 126 }) (va_Pc [.ref N0, .int a1, .int a2] (fP N0 D vwCl (fty cI cC cL cD cII cTr cTm cIt cB) (fen ql) F n)) (fNo N0 D vwCl (fty cI cC cL cD cII cTr cTm cIt cB) F n) (fXC N0 D vwCl (fty cI cC cL cD cII cTr cTm cIt cB) "java/lang/IndexOutOfBoundsException" F n) 1 6 (fA N0) := by
  refine fx_startX 4 rfl rfl (Nat.le_of_ble_eq_true rfl) ?_ rfl
  intro p e s m below meth c ls S htab hlocks hG hl
  have hl : lv_has ls 4 [(0, .ref N0), (1, .int a1), (2, .int a2)] := hl
  have lt_h0 := hG.1.lt h0
  refine lv_aload_n S.1 S.2.1 dX7_parent_0 rfl (lv_at hl 0 rfl) ?_
  refine lv_iload_n S.1 S.2.1 dX7_parent_1 rfl (lv_at hl 1 rfl) ?_
  refine lv_iload_n S.1 S.2.1 dX7_parent_2 rfl (lv_at hl 2 rfl) ?_
  refine fx_xV (As := [.int a1, .int a2]) (rest := []) S hG (k67_X7_treeWith g_a1_le_m1 hst (by omega) h0) h0 rfl (cwV 2 S.2.2.2.2 gX7_parent_X7_treeWith rfl rfl rfl (by decide +kernel) ⟨Nat.le_of_ble_eq_true rfl, Nat.le_of_ble_eq_true rfl⟩) rfl hl.1 rfl (Nat.le_of_ble_eq_true rfl) dX7_parent_3 ⟨Nat.le_of_ble_eq_true rfl, Nat.le_of_ble_eq_true rfl⟩ (fun ceq_1 q_1 H locs n_2 hn_2 hG h1q_1 h2q_1 h3q_1 => ?_)
  exact fx_out htab hlocks hG (by omega) h1q_1 h2q_1 h3q_1 (by decide) (by decide)
theorem k691_L_parent {n : Nat} {a1 : Int32} {a2 : Int32} (g_a1_le_m1 : a1 ≤ (-1)) (hst : l.stackTraces = false) (hn : N0 + 231 ≤ n) (h0 : F N0 = some (.inr (9, [.ref (N0 + 1), .ref (N0 + 2), .ref (N0 + 11), .ref (N0 + 13), .ref (N0 + 63), .ref (N0 + 65), .ref (N0 + 85), .int (-1), .int (-1), .int 32]))) : Met l yL_parent wsL_parent ({ frames := 9, cells := 1, slots := 6, locals := 149 }) (va_Pc [.ref N0, .int a1, .int a2, .ref (N0 + 229)] (fP N0 D vwCl (fty cI cC cL cD cII cTr cTm cIt cB) (fen ql) F n)) (fQi N0 D vwCl (fty cI cC cL cD cII cTr cTm cIt cB) (fun (r : Int32) (u : Nat) => r = 1 ∧ n ≤ u) (fun _ => F) (fun u => u)) 1 6 (fA N0) := by
  refine fx_startW (hh := [(0, 10, 13, 19), (0, 10, 17, 27)]) 5 rfl rfl (Nat.le_of_ble_eq_true rfl) ?_ rfl
  intro p e s m below meth c ls S htab hr hlocks hG hl
  have hl : lv_has ls 5 [(0, .ref N0), (1, .int a1), (2, .int a2), (3, .ref (N0 + 229))] := hl
  have lt_h0 := hG.1.lt h0
  refine lv_aload_n S.1 S.2.1 dL_parent_0 rfl (lv_at hl 3 rfl) ?_
  refine lv_iconst (v := 0) S.1 S.2.1 dL_parent_1 (by decide) ?_
  refine lv_aload_n S.1 S.2.1 dL_parent_2 rfl (lv_at hl 0 rfl) ?_
  refine lv_iload_n S.1 S.2.1 dL_parent_3 rfl (lv_at hl 1 rfl) ?_
  refine lv_iload_n S.1 S.2.1 dL_parent_4 rfl (lv_at hl 2 rfl) ?_
  refine fx_xV (As := [.int a1, .int a2]) (rest := [.int 0, .ref (N0 + 229)]) S hG (k690_X7_parent g_a1_le_m1 hst (by omega) h0) h0 rfl (cwV 2 S.2.2.2.2 gL_parent_X7_parent rfl rfl rfl (by decide +kernel) ⟨Nat.le_of_ble_eq_true rfl, Nat.le_of_ble_eq_true rfl⟩) rfl hl.1 rfl (Nat.le_of_ble_eq_true rfl) dL_parent_5 ⟨Nat.le_of_ble_eq_true rfl, Nat.le_of_ble_eq_true rfl⟩ (fun ceq_1 q_1 H locs n_2 hn_2 hG h1q_1 h2q_1 h3q_1 => ?_)
  refine fx_catch (hh := [(0, 10, 13, 19), (0, 10, 17, 27)]) S htab hG h1q_1 h2q_1 h3q_1 [] ⟨0, 10, 13, 19⟩ [⟨0, 10, 17, 27⟩] rfl [] (fun z hz => absurd hz List.not_mem_nil) (by decide) (by decide) (by decide +kernel) (List.mem_of_getElem? (i := 2) rfl) ?_
  refine lv_astore (lv' := [(4, .ref q_1), (0, .ref N0), (1, .int a1), (2, .int a2), (3, .ref (N0 + 229))]) S.1 S.2.1 dL_parent_13 hl (by decide) rfl (fun ls hl => ?_)
  refine lv_iconst (v := 1) S.1 S.2.1 dL_parent_15 (by decide) ?_
  exact fx_iret S hr hlocks n_2 hG (⟨rfl, hn_2⟩) dL_parent_16
theorem k692_X10_parent {n : Nat} {a1 : Int32} {a2 : Int32} (g_a1_le_m1 : a1 ≤ (-1)) (hn : N0 + 231 ≤ n) (h0 : F (N0 + 164) = some (.inr (12, [.ref (N0 + 165), .int 0, .ref (N0 + 181), .int 0, .int 0, .int 0, .int (-1), .ref (ql 24), .ref (N0 + 182), .ref (N0 + 187), .ref (N0 + 208), .ref (N0 + 209), .ref (N0 + 210), .ref (N0 + 211), .ref (N0 + 212), .int 0, .ref (N0 + 213), .ref (N0 + 218), .ref (N0 + 223), .ref (N0 + 224), .ref (N0 + 225), .ref (N0 + 226), .ref (N0 + 227), .int 0, .int 0, .ref (N0 + 228), .null, .int (-1), .int 0, .int 0, .int 0]))) : Met l yX10_parent wsX10_parent ({ frames := 4, cells := 0, slots := 0, locals := 86 }) (va_Pc [.ref (N0 + 164), .int a1, .int a2] (fP N0 D vwCl (fty cI cC cL cD cII cTr cTm cIt cB) (fen ql) F n)) (fQi N0 D vwCl (fty cI cC cL cD cII cTr cTm cIt cB) (fun (r : Int32) (_ : Unit) => r = 0) (fun _ => (fu F (N0 + 164) (.inr (12, [.ref (N0 + 165), .int 1, .ref (N0 + 181), .int 0, .int 0, .int 0, .int (-1), .ref (ql 24), .ref (N0 + 182), .ref (N0 + 187), .ref (N0 + 208), .ref (N0 + 209), .ref (N0 + 210), .ref (N0 + 211), .ref (N0 + 212), .int 0, .ref (N0 + 213), .ref (N0 + 218), .ref (N0 + 223), .ref (N0 + 224), .ref (N0 + 225), .ref (N0 + 226), .ref (N0 + 227), .int 0, .int 0, .ref (N0 + 228), .null, .int (-1), .int 0, .int 0, .int 0])))) (fun _ => n)) 0 0 (fA N0) := by
  refine fx_start 3 rfl rfl (Nat.le_of_ble_eq_true rfl) ?_ rfl
  intro p e s m below meth c ls S hr hlocks hin hG hl
  have hl : lv_has ls 3 [(0, .ref (N0 + 164)), (1, .int a1), (2, .int a2)] := hl
  have lt_h0 := hG.1.lt h0
  refine lv_aload_n S.1 S.2.1 dX10_parent_0 rfl (lv_at hl 0 rfl) ?_
  refine lv_iload_n S.1 S.2.1 dX10_parent_1 rfl (lv_at hl 1 rfl) ?_
  refine lv_iload_n S.1 S.2.1 dX10_parent_2 rfl (lv_at hl 2 rfl) ?_
  refine fx_cVi (As := [.int a1, .int a2]) (rest := []) S hG (k71_X10_isNowhere g_a1_le_m1 (by omega) h0) h0 rfl (cwV 2 S.2.2.2.2 gX10_parent_X10_isNowhere rfl rfl rfl (by decide +kernel) ⟨Nat.le_of_ble_eq_true rfl, Nat.le_of_ble_eq_true rfl⟩) rfl hl.1 rfl (Nat.le_of_ble_eq_true rfl) dX10_parent_3 ⟨Nat.le_of_ble_eq_true rfl, Nat.le_of_ble_eq_true rfl⟩ (fun rv_1 _ H locs hp hG => ?_)
  subst rv_1
  refine lv_if_eq (tgt := 11) S.1 S.2.1 dX10_parent_6 (by decide) (fun c => absurd c (by decide)) (fun _ => ?_)
  refine lv_iconst (v := 0) S.1 S.2.1 dX10_parent_9 (by decide) ?_
  exact fx_iret S hr hlocks () hG (rfl) dX10_parent_10
theorem k693_X7_parent {n : Nat} {a2 : Int32} (g_a2_le_m1 : a2 ≤ (-1)) (hst : l.stackTraces = false) (hn : N0 + 231 ≤ n) (h0 : F N0 = some (.inr (9, [.ref (N0 + 1), .ref (N0 + 2), .ref (N0 + 11), .ref (N0 + 13), .ref (N0 + 63), .ref (N0 + 65), .ref (N0 + 85), .int (-1), .int (-1), .int 32]))) (h1 : F (N0 + 1) = some (.inl (cTr, 3, .inr (.inr (.inr (.inr (va_up (va_up (va_up (fun _ => none) 0 (some (N0 + 143))) 1 (some (N0 + 150))) 2 (some (N0 + 157))))))))) (h2 : F (N0 + 143) = some (.inr (7, [.ref (N0 + 144), .ref (N0 + 145), .ref (N0 + 146), .ref (N0 + 147), .ref (N0 + 148), .ref (N0 + 149), .int 1]))) : vx_Met l yX7_parent wsX7_parent ({ frames := 7, cells := 1, slots := 6, locals := 105 }) (va_Pc [.ref N0, .int 0, .int a2] (fP N0 D vwCl (fty cI cC cL cD cII cTr cTm cIt cB) (fen ql) F n)) (fNo N0 D vwCl (fty cI cC cL cD cII cTr cTm cIt cB) F n) (fXC N0 D vwCl (fty cI cC cL cD cII cTr cTm cIt cB) "java/lang/IndexOutOfBoundsException" F n) 1 6 (fA N0) := by
  refine fx_startX 4 rfl rfl (Nat.le_of_ble_eq_true rfl) ?_ rfl
  intro p e s m below meth c ls S htab hlocks hG hl
  have hl : lv_has ls 4 [(0, .ref N0), (1, .int 0), (2, .int a2)] := hl
  have lt_h0 := hG.1.lt h0
  have lt_h1 := hG.1.lt h1
  have lt_h2 := hG.1.lt h2
  refine lv_aload_n S.1 S.2.1 dX7_parent_0 rfl (lv_at hl 0 rfl) ?_
  refine lv_iload_n S.1 S.2.1 dX7_parent_1 rfl (lv_at hl 1 rfl) ?_
  refine lv_iload_n S.1 S.2.1 dX7_parent_2 rfl (lv_at hl 2 rfl) ?_
  refine fx_xV (As := [.int 0, .int a2]) (rest := []) S hG (k74_X7_treeWith g_a2_le_m1 hst (by omega) h0 h1 h2) h0 rfl (cwV 2 S.2.2.2.2 gX7_parent_X7_treeWith rfl rfl rfl (by decide +kernel) ⟨Nat.le_of_ble_eq_true rfl, Nat.le_of_ble_eq_true rfl⟩) rfl hl.1 rfl (Nat.le_of_ble_eq_true rfl) dX7_parent_3 ⟨Nat.le_of_ble_eq_true rfl, Nat.le_of_ble_eq_true rfl⟩ (fun ceq_1 q_1 H locs n_2 hn_2 hG h1q_1 h2q_1 h3q_1 => ?_)
  exact fx_out htab hlocks hG (by omega) h1q_1 h2q_1 h3q_1 (by decide) (by decide)
theorem k694_L_parent {n : Nat} {a2 : Int32} (g_a2_le_m1 : a2 ≤ (-1)) (hst : l.stackTraces = false) (hn : N0 + 231 ≤ n) (h0 : F N0 = some (.inr (9, [.ref (N0 + 1), .ref (N0 + 2), .ref (N0 + 11), .ref (N0 + 13), .ref (N0 + 63), .ref (N0 + 65), .ref (N0 + 85), .int (-1), .int (-1), .int 32]))) (h1 : F (N0 + 1) = some (.inl (cTr, 3, .inr (.inr (.inr (.inr (va_up (va_up (va_up (fun _ => none) 0 (some (N0 + 143))) 1 (some (N0 + 150))) 2 (some (N0 + 157))))))))) (h2 : F (N0 + 143) = some (.inr (7, [.ref (N0 + 144), .ref (N0 + 145), .ref (N0 + 146), .ref (N0 + 147), .ref (N0 + 148), .ref (N0 + 149), .int 1]))) : Met l yL_parent wsL_parent ({ frames := 8, cells := 1, slots := 6, locals := 128 }) (va_Pc [.ref N0, .int 0, .int a2, .ref (N0 + 229)] (fP N0 D vwCl (fty cI cC cL cD cII cTr cTm cIt cB) (fen ql) F n)) (fQi N0 D vwCl (fty cI cC cL cD cII cTr cTm cIt cB) (fun (r : Int32) (u : Nat) => r = 1 ∧ n ≤ u) (fun _ => F) (fun u => u)) 1 6 (fA N0) := by
  refine fx_startW (hh := [(0, 10, 13, 19), (0, 10, 17, 27)]) 5 rfl rfl (Nat.le_of_ble_eq_true rfl) ?_ rfl
  intro p e s m below meth c ls S htab hr hlocks hG hl
  have hl : lv_has ls 5 [(0, .ref N0), (1, .int 0), (2, .int a2), (3, .ref (N0 + 229))] := hl
  have lt_h0 := hG.1.lt h0
  have lt_h1 := hG.1.lt h1
  have lt_h2 := hG.1.lt h2
  refine lv_aload_n S.1 S.2.1 dL_parent_0 rfl (lv_at hl 3 rfl) ?_
  refine lv_iconst (v := 0) S.1 S.2.1 dL_parent_1 (by decide) ?_
  refine lv_aload_n S.1 S.2.1 dL_parent_2 rfl (lv_at hl 0 rfl) ?_
  refine lv_iload_n S.1 S.2.1 dL_parent_3 rfl (lv_at hl 1 rfl) ?_
  refine lv_iload_n S.1 S.2.1 dL_parent_4 rfl (lv_at hl 2 rfl) ?_
  refine fx_xV (As := [.int 0, .int a2]) (rest := [.int 0, .ref (N0 + 229)]) S hG (k693_X7_parent g_a2_le_m1 hst (by omega) h0 h1 h2) h0 rfl (cwV 2 S.2.2.2.2 gL_parent_X7_parent rfl rfl rfl (by decide +kernel) ⟨Nat.le_of_ble_eq_true rfl, Nat.le_of_ble_eq_true rfl⟩) rfl hl.1 rfl (Nat.le_of_ble_eq_true rfl) dL_parent_5 ⟨Nat.le_of_ble_eq_true rfl, Nat.le_of_ble_eq_true rfl⟩ (fun ceq_1 q_1 H locs n_2 hn_2 hG h1q_1 h2q_1 h3q_1 => ?_)
  refine fx_catch (hh := [(0, 10, 13, 19), (0, 10, 17, 27)]) S htab hG h1q_1 h2q_1 h3q_1 [] ⟨0, 10, 13, 19⟩ [⟨0, 10, 17, 27⟩] rfl [] (fun z hz => absurd hz List.not_mem_nil) (by decide) (by decide) (by decide +kernel) (List.mem_of_getElem? (i := 2) rfl) ?_
  refine lv_astore (lv' := [(4, .ref q_1), (0, .ref N0), (1, .int 0), (2, .int a2), (3, .ref (N0 + 229))]) S.1 S.2.1 dL_parent_13 hl (by decide) rfl (fun ls hl => ?_)
  refine lv_iconst (v := 1) S.1 S.2.1 dL_parent_15 (by decide) ?_
  exact fx_iret S hr hlocks n_2 hG (⟨rfl, hn_2⟩) dL_parent_16
theorem k695_X10_parent {n : Nat} {a2 : Int32} (g_a2_le_m1 : a2 ≤ (-1)) (hn : N0 + 231 ≤ n) (h0 : F (N0 + 164) = some (.inr (12, [.ref (N0 + 165), .int 0, .ref (N0 + 181), .int 0, .int 0, .int 0, .int (-1), .ref (ql 24), .ref (N0 + 182), .ref (N0 + 187), .ref (N0 + 208), .ref (N0 + 209), .ref (N0 + 210), .ref (N0 + 211), .ref (N0 + 212), .int 0, .ref (N0 + 213), .ref (N0 + 218), .ref (N0 + 223), .ref (N0 + 224), .ref (N0 + 225), .ref (N0 + 226), .ref (N0 + 227), .int 0, .int 0, .ref (N0 + 228), .null, .int (-1), .int 0, .int 0, .int 0]))) (h1 : F (N0 + 165) = some (.inl (cTm, 3, .inr (.inr (.inr (.inr (va_up (va_up (va_up (fun _ => none) 0 (some (N0 + 166))) 1 (some (N0 + 171))) 2 (some (N0 + 176))))))))) (h2 : F (N0 + 166) = some (.inr (11, [.ref (N0 + 167), .ref (N0 + 168), .ref (N0 + 169), .ref (N0 + 170), .int 1]))) : Met l yX10_parent wsX10_parent ({ frames := 4, cells := 0, slots := 0, locals := 86 }) (va_Pc [.ref (N0 + 164), .int 0, .int a2] (fP N0 D vwCl (fty cI cC cL cD cII cTr cTm cIt cB) (fen ql) F n)) (fQi N0 D vwCl (fty cI cC cL cD cII cTr cTm cIt cB) (fun (r : Int32) (_ : Unit) => r = 0) (fun _ => (fu F (N0 + 164) (.inr (12, [.ref (N0 + 165), .int 1, .ref (N0 + 181), .int 0, .int 0, .int 0, .int (-1), .ref (ql 24), .ref (N0 + 182), .ref (N0 + 187), .ref (N0 + 208), .ref (N0 + 209), .ref (N0 + 210), .ref (N0 + 211), .ref (N0 + 212), .int 0, .ref (N0 + 213), .ref (N0 + 218), .ref (N0 + 223), .ref (N0 + 224), .ref (N0 + 225), .ref (N0 + 226), .ref (N0 + 227), .int 0, .int 0, .ref (N0 + 228), .null, .int (-1), .int 0, .int 0, .int 0])))) (fun _ => n)) 0 0 (fA N0) := by
  refine fx_start 3 rfl rfl (Nat.le_of_ble_eq_true rfl) ?_ rfl
  intro p e s m below meth c ls S hr hlocks hin hG hl
  have hl : lv_has ls 3 [(0, .ref (N0 + 164)), (1, .int 0), (2, .int a2)] := hl
  have lt_h0 := hG.1.lt h0
  have lt_h1 := hG.1.lt h1
  have lt_h2 := hG.1.lt h2
  refine lv_aload_n S.1 S.2.1 dX10_parent_0 rfl (lv_at hl 0 rfl) ?_
  refine lv_iload_n S.1 S.2.1 dX10_parent_1 rfl (lv_at hl 1 rfl) ?_
  refine lv_iload_n S.1 S.2.1 dX10_parent_2 rfl (lv_at hl 2 rfl) ?_
  refine fx_cVi (As := [.int 0, .int a2]) (rest := []) S hG (k79_X10_isNowhere g_a2_le_m1 (by omega) h0 h1 h2) h0 rfl (cwV 2 S.2.2.2.2 gX10_parent_X10_isNowhere rfl rfl rfl (by decide +kernel) ⟨Nat.le_of_ble_eq_true rfl, Nat.le_of_ble_eq_true rfl⟩) rfl hl.1 rfl (Nat.le_of_ble_eq_true rfl) dX10_parent_3 ⟨Nat.le_of_ble_eq_true rfl, Nat.le_of_ble_eq_true rfl⟩ (fun rv_1 _ H locs hp hG => ?_)
  subst rv_1
  refine lv_if_eq (tgt := 11) S.1 S.2.1 dX10_parent_6 (by decide) (fun c => absurd c (by decide)) (fun _ => ?_)
  refine lv_iconst (v := 0) S.1 S.2.1 dX10_parent_9 (by decide) ?_
  exact fx_iret S hr hlocks () hG (rfl) dX10_parent_10
theorem k696_X7_parent {n : Nat} (hst : l.stackTraces = false) (hn : N0 + 231 ≤ n) (h0 : F N0 = some (.inr (9, [.ref (N0 + 1), .ref (N0 + 2), .ref (N0 + 11), .ref (N0 + 13), .ref (N0 + 63), .ref (N0 + 65), .ref (N0 + 85), .int (-1), .int (-1), .int 32]))) (h1 : F (N0 + 1) = some (.inl (cTr, 3, .inr (.inr (.inr (.inr (va_up (va_up (va_up (fun _ => none) 0 (some (N0 + 143))) 1 (some (N0 + 150))) 2 (some (N0 + 157))))))))) (h2 : F (N0 + 143) = some (.inr (7, [.ref (N0 + 144), .ref (N0 + 145), .ref (N0 + 146), .ref (N0 + 147), .ref (N0 + 148), .ref (N0 + 149), .int 1]))) : vx_Met l yX7_parent wsX7_parent ({ frames := 6, cells := 1, slots := 6, locals := 82 }) (va_Pc [.ref N0, .int 0, .int 0] (fP N0 D vwCl (fty cI cC cL cD cII cTr cTm cIt cB) (fen ql) F n)) (fNo N0 D vwCl (fty cI cC cL cD cII cTr cTm cIt cB) F n) (fXC N0 D vwCl (fty cI cC cL cD cII cTr cTm cIt cB) "java/util/NoSuchElementException" F n) 1 6 (fA N0) := by
  refine fx_startX 4 rfl rfl (Nat.le_of_ble_eq_true rfl) ?_ rfl
  intro p e s m below meth c ls S htab hlocks hG hl
  have hl : lv_has ls 4 [(0, .ref N0), (1, .int 0), (2, .int 0)] := hl
  have lt_h0 := hG.1.lt h0
  have lt_h1 := hG.1.lt h1
  have lt_h2 := hG.1.lt h2
  refine lv_aload_n S.1 S.2.1 dX7_parent_0 rfl (lv_at hl 0 rfl) ?_
  refine lv_iload_n S.1 S.2.1 dX7_parent_1 rfl (lv_at hl 1 rfl) ?_
  refine lv_iload_n S.1 S.2.1 dX7_parent_2 rfl (lv_at hl 2 rfl) ?_
  refine fx_cVr (As := [.int 0, .int 0]) (rest := []) S hG (k82_X7_treeWith (by omega) h0 h1 h2) h0 rfl (cwV 2 S.2.2.2.2 gX7_parent_X7_treeWith rfl rfl rfl (by decide +kernel) ⟨Nat.le_of_ble_eq_true rfl, Nat.le_of_ble_eq_true rfl⟩) rfl hl.1 rfl (Nat.le_of_ble_eq_true rfl) dX7_parent_3 ⟨Nat.le_of_ble_eq_true rfl, Nat.le_of_ble_eq_true rfl⟩ (fun rv_1 _ H locs hp hG => ?_)
  subst rv_1
  refine lv_astore_n (lv' := [(3, .ref (N0 + 143)), (0, .ref N0), (1, .int 0), (2, .int 0)]) S.1 S.2.1 dX7_parent_6 rfl hl (by decide) rfl (fun ls hl => ?_)
  refine lv_iload_n S.1 S.2.1 dX7_parent_7 rfl (lv_at hl 3 rfl) ?_
  refine lv_if_ne (tgt := 21) S.1 S.2.1 dX7_parent_8 (by decide) (fun c => absurd (by decide) c) (fun _ => ?_)
  exact fx_throwX (text := "the root has no parent") S hG hl.1 hst (by decide) (by decide +kernel) (by decide +kernel) (List.mem_of_getElem? (i := 11) rfl) (by decide +kernel) (by decide +kernel) (by decide +kernel) (List.mem_of_getElem? (i := 3) rfl) (List.mem_of_getElem? (i := 0) rfl) (List.mem_of_getElem? (i := 1) rfl) (List.mem_of_getElem? (i := 2) rfl) dX7_parent_11 dX7_parent_14 dX7_parent_15 dX7_parent_17 dX7_parent_20 htab (by decide) (Nat.le_of_ble_eq_true rfl) (by decide) (by decide) hlocks (by decide) (by decide)
theorem k697_L_parent {n : Nat} (hst : l.stackTraces = false) (hn : N0 + 231 ≤ n) (h0 : F N0 = some (.inr (9, [.ref (N0 + 1), .ref (N0 + 2), .ref (N0 + 11), .ref (N0 + 13), .ref (N0 + 63), .ref (N0 + 65), .ref (N0 + 85), .int (-1), .int (-1), .int 32]))) (h1 : F (N0 + 1) = some (.inl (cTr, 3, .inr (.inr (.inr (.inr (va_up (va_up (va_up (fun _ => none) 0 (some (N0 + 143))) 1 (some (N0 + 150))) 2 (some (N0 + 157))))))))) (h2 : F (N0 + 143) = some (.inr (7, [.ref (N0 + 144), .ref (N0 + 145), .ref (N0 + 146), .ref (N0 + 147), .ref (N0 + 148), .ref (N0 + 149), .int 1]))) : Met l yL_parent wsL_parent ({ frames := 7, cells := 1, slots := 6, locals := 105 }) (va_Pc [.ref N0, .int 0, .int 0, .ref (N0 + 229)] (fP N0 D vwCl (fty cI cC cL cD cII cTr cTm cIt cB) (fen ql) F n)) (fQi N0 D vwCl (fty cI cC cL cD cII cTr cTm cIt cB) (fun (r : Int32) (u : Nat) => r = 2 ∧ n ≤ u) (fun _ => F) (fun u => u)) 1 6 (fA N0) := by
  refine fx_startW (hh := [(0, 10, 13, 19), (0, 10, 17, 27)]) 5 rfl rfl (Nat.le_of_ble_eq_true rfl) ?_ rfl
  intro p e s m below meth c ls S htab hr hlocks hG hl
  have hl : lv_has ls 5 [(0, .ref N0), (1, .int 0), (2, .int 0), (3, .ref (N0 + 229))] := hl
  have lt_h0 := hG.1.lt h0
  have lt_h1 := hG.1.lt h1
  have lt_h2 := hG.1.lt h2
  refine lv_aload_n S.1 S.2.1 dL_parent_0 rfl (lv_at hl 3 rfl) ?_
  refine lv_iconst (v := 0) S.1 S.2.1 dL_parent_1 (by decide) ?_
  refine lv_aload_n S.1 S.2.1 dL_parent_2 rfl (lv_at hl 0 rfl) ?_
  refine lv_iload_n S.1 S.2.1 dL_parent_3 rfl (lv_at hl 1 rfl) ?_
  refine lv_iload_n S.1 S.2.1 dL_parent_4 rfl (lv_at hl 2 rfl) ?_
  refine fx_xV (As := [.int 0, .int 0]) (rest := [.int 0, .ref (N0 + 229)]) S hG (k696_X7_parent hst (by omega) h0 h1 h2) h0 rfl (cwV 2 S.2.2.2.2 gL_parent_X7_parent rfl rfl rfl (by decide +kernel) ⟨Nat.le_of_ble_eq_true rfl, Nat.le_of_ble_eq_true rfl⟩) rfl hl.1 rfl (Nat.le_of_ble_eq_true rfl) dL_parent_5 ⟨Nat.le_of_ble_eq_true rfl, Nat.le_of_ble_eq_true rfl⟩ (fun ceq_1 q_1 H locs n_2 hn_2 hG h1q_1 h2q_1 h3q_1 => ?_)
  refine fx_catch (hh := [(0, 10, 13, 19), (0, 10, 17, 27)]) S htab hG h1q_1 h2q_1 h3q_1 [⟨0, 10, 13, 19⟩] ⟨0, 10, 17, 27⟩ [] rfl [] (fun z hz => by
    simp only [List.mem_cons, List.not_mem_nil, or_false] at hz
    rcases hz with rfl
    · exact ⟨by decide, "java/lang/IndexOutOfBoundsException", by decide +kernel, List.mem_of_getElem? (i := 14) rfl⟩) (by decide) (by decide) (by decide +kernel) (List.mem_of_getElem? (i := 3) rfl) ?_
  refine lv_astore (lv' := [(4, .ref q_1), (0, .ref N0), (1, .int 0), (2, .int 0), (3, .ref (N0 + 229))]) S.1 S.2.1 dL_parent_17 hl (by decide) rfl (fun ls hl => ?_)
  refine lv_iconst (v := 2) S.1 S.2.1 dL_parent_19 (by decide) ?_
  exact fx_iret S hr hlocks n_2 hG (⟨rfl, hn_2⟩) dL_parent_20
theorem k698_X10_parent {n : Nat} (hn : N0 + 231 ≤ n) (h0 : F (N0 + 164) = some (.inr (12, [.ref (N0 + 165), .int 0, .ref (N0 + 181), .int 0, .int 0, .int 0, .int (-1), .ref (ql 24), .ref (N0 + 182), .ref (N0 + 187), .ref (N0 + 208), .ref (N0 + 209), .ref (N0 + 210), .ref (N0 + 211), .ref (N0 + 212), .int 0, .ref (N0 + 213), .ref (N0 + 218), .ref (N0 + 223), .ref (N0 + 224), .ref (N0 + 225), .ref (N0 + 226), .ref (N0 + 227), .int 0, .int 0, .ref (N0 + 228), .null, .int (-1), .int 0, .int 0, .int 0]))) (h1 : F (N0 + 165) = some (.inl (cTm, 3, .inr (.inr (.inr (.inr (va_up (va_up (va_up (fun _ => none) 0 (some (N0 + 166))) 1 (some (N0 + 171))) 2 (some (N0 + 176))))))))) (h2 : F (N0 + 166) = some (.inr (11, [.ref (N0 + 167), .ref (N0 + 168), .ref (N0 + 169), .ref (N0 + 170), .int 1]))) : Met l yX10_parent wsX10_parent ({ frames := 4, cells := 0, slots := 0, locals := 86 }) (va_Pc [.ref (N0 + 164), .int 0, .int 0] (fP N0 D vwCl (fty cI cC cL cD cII cTr cTm cIt cB) (fen ql) F n)) (fQi N0 D vwCl (fty cI cC cL cD cII cTr cTm cIt cB) (fun (r : Int32) (_ : Unit) => r = 0) (fun _ => (fu F (N0 + 164) (.inr (12, [.ref (N0 + 165), .int 2, .ref (N0 + 181), .int 0, .int 0, .int 0, .int (-1), .ref (ql 24), .ref (N0 + 182), .ref (N0 + 187), .ref (N0 + 208), .ref (N0 + 209), .ref (N0 + 210), .ref (N0 + 211), .ref (N0 + 212), .int 0, .ref (N0 + 213), .ref (N0 + 218), .ref (N0 + 223), .ref (N0 + 224), .ref (N0 + 225), .ref (N0 + 226), .ref (N0 + 227), .int 0, .int 0, .ref (N0 + 228), .null, .int (-1), .int 0, .int 0, .int 0])))) (fun _ => n)) 0 0 (fA N0) := by
  refine fx_start 3 rfl rfl (Nat.le_of_ble_eq_true rfl) ?_ rfl
  intro p e s m below meth c ls S hr hlocks hin hG hl
  have hl : lv_has ls 3 [(0, .ref (N0 + 164)), (1, .int 0), (2, .int 0)] := hl
  have lt_h0 := hG.1.lt h0
  have lt_h1 := hG.1.lt h1
  have lt_h2 := hG.1.lt h2
  refine lv_aload_n S.1 S.2.1 dX10_parent_0 rfl (lv_at hl 0 rfl) ?_
  refine lv_iload_n S.1 S.2.1 dX10_parent_1 rfl (lv_at hl 1 rfl) ?_
  refine lv_iload_n S.1 S.2.1 dX10_parent_2 rfl (lv_at hl 2 rfl) ?_
  refine fx_cVi (As := [.int 0, .int 0]) (rest := []) S hG (k87_X10_isNowhere (by omega) h0 h1 h2) h0 rfl (cwV 2 S.2.2.2.2 gX10_parent_X10_isNowhere rfl rfl rfl (by decide +kernel) ⟨Nat.le_of_ble_eq_true rfl, Nat.le_of_ble_eq_true rfl⟩) rfl hl.1 rfl (Nat.le_of_ble_eq_true rfl) dX10_parent_3 ⟨Nat.le_of_ble_eq_true rfl, Nat.le_of_ble_eq_true rfl⟩ (fun rv_1 _ H locs hp hG => ?_)
  subst rv_1
  refine lv_if_eq (tgt := 11) S.1 S.2.1 dX10_parent_6 (by decide) (fun _ => ?_) (fun c => absurd (by decide) c)
  refine lv_iload_n S.1 S.2.1 dX10_parent_11 rfl (lv_at hl 2 rfl) ?_
  refine lv_if_ne (tgt := 23) S.1 S.2.1 dX10_parent_12 (by decide) (fun c => absurd (by decide) c) (fun _ => ?_)
  refine lv_aload_n S.1 S.2.1 dX10_parent_15 rfl (lv_at hl 0 rfl) ?_
  refine lv_iconst (v := 2) S.1 S.2.1 dX10_parent_16 (by decide) ?_
  refine fx_cVi (As := [.int 2]) (rest := []) S hG (k99_X10_fails (by omega) fu_s) fu_s rfl (cwV 1 S.2.2.2.2 gX10_parent_X10_fails rfl rfl rfl (by decide +kernel) ⟨Nat.le_of_ble_eq_true rfl, Nat.le_of_ble_eq_true rfl⟩) rfl hl.1 rfl (Nat.le_of_ble_eq_true rfl) dX10_parent_17 ⟨Nat.le_of_ble_eq_true rfl, Nat.le_of_ble_eq_true rfl⟩ (fun rv_2 _ H locs hp hG => ?_)
  subst rv_2
  refine lv_goto (tgt := 34) S.1 S.2.1 dX10_parent_20 (by decide) ?_
  have hG : fG N0 D vwCl (fty cI cC cL cD cII cTr cTm cIt cB) (fen ql) s (fu F (N0 + 164) (.inr (12, [.ref (N0 + 165), .int 2, .ref (N0 + 181), .int 0, .int 0, .int 0, .int (-1), .ref (ql 24), .ref (N0 + 182), .ref (N0 + 187), .ref (N0 + 208), .ref (N0 + 209), .ref (N0 + 210), .ref (N0 + 211), .ref (N0 + 212), .int 0, .ref (N0 + 213), .ref (N0 + 218), .ref (N0 + 223), .ref (N0 + 224), .ref (N0 + 225), .ref (N0 + 226), .ref (N0 + 227), .int 0, .int 0, .ref (N0 + 228), .null, .int (-1), .int 0, .int 0, .int 0]))) n H locs := hG.weak (fun a e h => by
    rcases fu_cases h with ⟨rfl, he⟩ | ⟨hne0, h⟩
    · cases he; exact fu_s
    · exact (fu_at (by omega) (fu_at (by omega) h)))
  exact fx_iret S hr hlocks () hG (rfl) dX10_parent_34
theorem k699_X7_parent {n : Nat} {a2 : Int32} (g_a2_ge_1 : 1 ≤ a2) (hst : l.stackTraces = false) (hn : N0 + 231 ≤ n) (h0 : F N0 = some (.inr (9, [.ref (N0 + 1), .ref (N0 + 2), .ref (N0 + 11), .ref (N0 + 13), .ref (N0 + 63), .ref (N0 + 65), .ref (N0 + 85), .int (-1), .int (-1), .int 32]))) (h1 : F (N0 + 1) = some (.inl (cTr, 3, .inr (.inr (.inr (.inr (va_up (va_up (va_up (fun _ => none) 0 (some (N0 + 143))) 1 (some (N0 + 150))) 2 (some (N0 + 157))))))))) (h2 : F (N0 + 143) = some (.inr (7, [.ref (N0 + 144), .ref (N0 + 145), .ref (N0 + 146), .ref (N0 + 147), .ref (N0 + 148), .ref (N0 + 149), .int 1]))) : vx_Met l yX7_parent wsX7_parent ({ frames := 7, cells := 1, slots := 6, locals := 105 }) (va_Pc [.ref N0, .int 0, .int a2] (fP N0 D vwCl (fty cI cC cL cD cII cTr cTm cIt cB) (fen ql) F n)) (fNo N0 D vwCl (fty cI cC cL cD cII cTr cTm cIt cB) F n) (fXC N0 D vwCl (fty cI cC cL cD cII cTr cTm cIt cB) "java/lang/IndexOutOfBoundsException" F n) 1 6 (fA N0) := by
  refine fx_startX 4 rfl rfl (Nat.le_of_ble_eq_true rfl) ?_ rfl
  intro p e s m below meth c ls S htab hlocks hG hl
  have hl : lv_has ls 4 [(0, .ref N0), (1, .int 0), (2, .int a2)] := hl
  have lt_h0 := hG.1.lt h0
  have lt_h1 := hG.1.lt h1
  have lt_h2 := hG.1.lt h2
  refine lv_aload_n S.1 S.2.1 dX7_parent_0 rfl (lv_at hl 0 rfl) ?_
  refine lv_iload_n S.1 S.2.1 dX7_parent_1 rfl (lv_at hl 1 rfl) ?_
  refine lv_iload_n S.1 S.2.1 dX7_parent_2 rfl (lv_at hl 2 rfl) ?_
  refine fx_xV (As := [.int 0, .int a2]) (rest := []) S hG (k130_X7_treeWith g_a2_ge_1 hst (by omega) h0 h1 h2) h0 rfl (cwV 2 S.2.2.2.2 gX7_parent_X7_treeWith rfl rfl rfl (by decide +kernel) ⟨Nat.le_of_ble_eq_true rfl, Nat.le_of_ble_eq_true rfl⟩) rfl hl.1 rfl (Nat.le_of_ble_eq_true rfl) dX7_parent_3 ⟨Nat.le_of_ble_eq_true rfl, Nat.le_of_ble_eq_true rfl⟩ (fun ceq_1 q_1 H locs n_2 hn_2 hG h1q_1 h2q_1 h3q_1 => ?_)
  exact fx_out htab hlocks hG (by omega) h1q_1 h2q_1 h3q_1 (by decide) (by decide)
theorem k700_L_parent {n : Nat} {a2 : Int32} (g_a2_ge_1 : 1 ≤ a2) (hst : l.stackTraces = false) (hn : N0 + 231 ≤ n) (h0 : F N0 = some (.inr (9, [.ref (N0 + 1), .ref (N0 + 2), .ref (N0 + 11), .ref (N0 + 13), .ref (N0 + 63), .ref (N0 + 65), .ref (N0 + 85), .int (-1), .int (-1), .int 32]))) (h1 : F (N0 + 1) = some (.inl (cTr, 3, .inr (.inr (.inr (.inr (va_up (va_up (va_up (fun _ => none) 0 (some (N0 + 143))) 1 (some (N0 + 150))) 2 (some (N0 + 157))))))))) (h2 : F (N0 + 143) = some (.inr (7, [.ref (N0 + 144), .ref (N0 + 145), .ref (N0 + 146), .ref (N0 + 147), .ref (N0 + 148), .ref (N0 + 149), .int 1]))) : Met l yL_parent wsL_parent ({ frames := 8, cells := 1, slots := 6, locals := 128 }) (va_Pc [.ref N0, .int 0, .int a2, .ref (N0 + 229)] (fP N0 D vwCl (fty cI cC cL cD cII cTr cTm cIt cB) (fen ql) F n)) (fQi N0 D vwCl (fty cI cC cL cD cII cTr cTm cIt cB) (fun (r : Int32) (u : Nat) => r = 1 ∧ n ≤ u) (fun _ => F) (fun u => u)) 1 6 (fA N0) := by
  refine fx_startW (hh := [(0, 10, 13, 19), (0, 10, 17, 27)]) 5 rfl rfl (Nat.le_of_ble_eq_true rfl) ?_ rfl
  intro p e s m below meth c ls S htab hr hlocks hG hl
  have hl : lv_has ls 5 [(0, .ref N0), (1, .int 0), (2, .int a2), (3, .ref (N0 + 229))] := hl
  have lt_h0 := hG.1.lt h0
  have lt_h1 := hG.1.lt h1
  have lt_h2 := hG.1.lt h2
  refine lv_aload_n S.1 S.2.1 dL_parent_0 rfl (lv_at hl 3 rfl) ?_
  refine lv_iconst (v := 0) S.1 S.2.1 dL_parent_1 (by decide) ?_
  refine lv_aload_n S.1 S.2.1 dL_parent_2 rfl (lv_at hl 0 rfl) ?_
  refine lv_iload_n S.1 S.2.1 dL_parent_3 rfl (lv_at hl 1 rfl) ?_
  refine lv_iload_n S.1 S.2.1 dL_parent_4 rfl (lv_at hl 2 rfl) ?_
  refine fx_xV (As := [.int 0, .int a2]) (rest := [.int 0, .ref (N0 + 229)]) S hG (k699_X7_parent g_a2_ge_1 hst (by omega) h0 h1 h2) h0 rfl (cwV 2 S.2.2.2.2 gL_parent_X7_parent rfl rfl rfl (by decide +kernel) ⟨Nat.le_of_ble_eq_true rfl, Nat.le_of_ble_eq_true rfl⟩) rfl hl.1 rfl (Nat.le_of_ble_eq_true rfl) dL_parent_5 ⟨Nat.le_of_ble_eq_true rfl, Nat.le_of_ble_eq_true rfl⟩ (fun ceq_1 q_1 H locs n_2 hn_2 hG h1q_1 h2q_1 h3q_1 => ?_)
  refine fx_catch (hh := [(0, 10, 13, 19), (0, 10, 17, 27)]) S htab hG h1q_1 h2q_1 h3q_1 [] ⟨0, 10, 13, 19⟩ [⟨0, 10, 17, 27⟩] rfl [] (fun z hz => absurd hz List.not_mem_nil) (by decide) (by decide) (by decide +kernel) (List.mem_of_getElem? (i := 2) rfl) ?_
  refine lv_astore (lv' := [(4, .ref q_1), (0, .ref N0), (1, .int 0), (2, .int a2), (3, .ref (N0 + 229))]) S.1 S.2.1 dL_parent_13 hl (by decide) rfl (fun ls hl => ?_)
  refine lv_iconst (v := 1) S.1 S.2.1 dL_parent_15 (by decide) ?_
  exact fx_iret S hr hlocks n_2 hG (⟨rfl, hn_2⟩) dL_parent_16
theorem k701_X10_parent {n : Nat} {a2 : Int32} (g_a2_ge_1 : 1 ≤ a2) (hn : N0 + 231 ≤ n) (h0 : F (N0 + 164) = some (.inr (12, [.ref (N0 + 165), .int 0, .ref (N0 + 181), .int 0, .int 0, .int 0, .int (-1), .ref (ql 24), .ref (N0 + 182), .ref (N0 + 187), .ref (N0 + 208), .ref (N0 + 209), .ref (N0 + 210), .ref (N0 + 211), .ref (N0 + 212), .int 0, .ref (N0 + 213), .ref (N0 + 218), .ref (N0 + 223), .ref (N0 + 224), .ref (N0 + 225), .ref (N0 + 226), .ref (N0 + 227), .int 0, .int 0, .ref (N0 + 228), .null, .int (-1), .int 0, .int 0, .int 0]))) (h1 : F (N0 + 165) = some (.inl (cTm, 3, .inr (.inr (.inr (.inr (va_up (va_up (va_up (fun _ => none) 0 (some (N0 + 166))) 1 (some (N0 + 171))) 2 (some (N0 + 176))))))))) (h2 : F (N0 + 166) = some (.inr (11, [.ref (N0 + 167), .ref (N0 + 168), .ref (N0 + 169), .ref (N0 + 170), .int 1]))) : Met l yX10_parent wsX10_parent ({ frames := 4, cells := 0, slots := 0, locals := 86 }) (va_Pc [.ref (N0 + 164), .int 0, .int a2] (fP N0 D vwCl (fty cI cC cL cD cII cTr cTm cIt cB) (fen ql) F n)) (fQi N0 D vwCl (fty cI cC cL cD cII cTr cTm cIt cB) (fun (r : Int32) (_ : Unit) => r = 0) (fun _ => (fu F (N0 + 164) (.inr (12, [.ref (N0 + 165), .int 1, .ref (N0 + 181), .int 0, .int 0, .int 0, .int (-1), .ref (ql 24), .ref (N0 + 182), .ref (N0 + 187), .ref (N0 + 208), .ref (N0 + 209), .ref (N0 + 210), .ref (N0 + 211), .ref (N0 + 212), .int 0, .ref (N0 + 213), .ref (N0 + 218), .ref (N0 + 223), .ref (N0 + 224), .ref (N0 + 225), .ref (N0 + 226), .ref (N0 + 227), .int 0, .int 0, .ref (N0 + 228), .null, .int (-1), .int 0, .int 0, .int 0])))) (fun _ => n)) 0 0 (fA N0) := by
  refine fx_start 3 rfl rfl (Nat.le_of_ble_eq_true rfl) ?_ rfl
  intro p e s m below meth c ls S hr hlocks hin hG hl
  have hl : lv_has ls 3 [(0, .ref (N0 + 164)), (1, .int 0), (2, .int a2)] := hl
  have lt_h0 := hG.1.lt h0
  have lt_h1 := hG.1.lt h1
  have lt_h2 := hG.1.lt h2
  refine lv_aload_n S.1 S.2.1 dX10_parent_0 rfl (lv_at hl 0 rfl) ?_
  refine lv_iload_n S.1 S.2.1 dX10_parent_1 rfl (lv_at hl 1 rfl) ?_
  refine lv_iload_n S.1 S.2.1 dX10_parent_2 rfl (lv_at hl 2 rfl) ?_
  refine fx_cVi (As := [.int 0, .int a2]) (rest := []) S hG (k135_X10_isNowhere g_a2_ge_1 (by omega) h0 h1 h2) h0 rfl (cwV 2 S.2.2.2.2 gX10_parent_X10_isNowhere rfl rfl rfl (by decide +kernel) ⟨Nat.le_of_ble_eq_true rfl, Nat.le_of_ble_eq_true rfl⟩) rfl hl.1 rfl (Nat.le_of_ble_eq_true rfl) dX10_parent_3 ⟨Nat.le_of_ble_eq_true rfl, Nat.le_of_ble_eq_true rfl⟩ (fun rv_1 _ H locs hp hG => ?_)
  subst rv_1
  refine lv_if_eq (tgt := 11) S.1 S.2.1 dX10_parent_6 (by decide) (fun c => absurd c (by decide)) (fun _ => ?_)
  refine lv_iconst (v := 0) S.1 S.2.1 dX10_parent_9 (by decide) ?_
  exact fx_iret S hr hlocks () hG (rfl) dX10_parent_10
theorem k702_X7_parent {n : Nat} {a2 : Int32} (g_a2_le_m1 : a2 ≤ (-1)) (hst : l.stackTraces = false) (hn : N0 + 231 ≤ n) (h0 : F N0 = some (.inr (9, [.ref (N0 + 1), .ref (N0 + 2), .ref (N0 + 11), .ref (N0 + 13), .ref (N0 + 63), .ref (N0 + 65), .ref (N0 + 85), .int (-1), .int (-1), .int 32]))) (h1 : F (N0 + 1) = some (.inl (cTr, 3, .inr (.inr (.inr (.inr (va_up (va_up (va_up (fun _ => none) 0 (some (N0 + 143))) 1 (some (N0 + 150))) 2 (some (N0 + 157))))))))) (h2 : F (N0 + 150) = some (.inr (7, [.ref (N0 + 151), .ref (N0 + 152), .ref (N0 + 153), .ref (N0 + 154), .ref (N0 + 155), .ref (N0 + 156), .int 1]))) : vx_Met l yX7_parent wsX7_parent ({ frames := 7, cells := 1, slots := 6, locals := 105 }) (va_Pc [.ref N0, .int 1, .int a2] (fP N0 D vwCl (fty cI cC cL cD cII cTr cTm cIt cB) (fen ql) F n)) (fNo N0 D vwCl (fty cI cC cL cD cII cTr cTm cIt cB) F n) (fXC N0 D vwCl (fty cI cC cL cD cII cTr cTm cIt cB) "java/lang/IndexOutOfBoundsException" F n) 1 6 (fA N0) := by
  refine fx_startX 4 rfl rfl (Nat.le_of_ble_eq_true rfl) ?_ rfl
  intro p e s m below meth c ls S htab hlocks hG hl
  have hl : lv_has ls 4 [(0, .ref N0), (1, .int 1), (2, .int a2)] := hl
  have lt_h0 := hG.1.lt h0
  have lt_h1 := hG.1.lt h1
  have lt_h2 := hG.1.lt h2
  refine lv_aload_n S.1 S.2.1 dX7_parent_0 rfl (lv_at hl 0 rfl) ?_
  refine lv_iload_n S.1 S.2.1 dX7_parent_1 rfl (lv_at hl 1 rfl) ?_
  refine lv_iload_n S.1 S.2.1 dX7_parent_2 rfl (lv_at hl 2 rfl) ?_
  refine fx_xV (As := [.int 1, .int a2]) (rest := []) S hG (k138_X7_treeWith g_a2_le_m1 hst (by omega) h0 h1 h2) h0 rfl (cwV 2 S.2.2.2.2 gX7_parent_X7_treeWith rfl rfl rfl (by decide +kernel) ⟨Nat.le_of_ble_eq_true rfl, Nat.le_of_ble_eq_true rfl⟩) rfl hl.1 rfl (Nat.le_of_ble_eq_true rfl) dX7_parent_3 ⟨Nat.le_of_ble_eq_true rfl, Nat.le_of_ble_eq_true rfl⟩ (fun ceq_1 q_1 H locs n_2 hn_2 hG h1q_1 h2q_1 h3q_1 => ?_)
  exact fx_out htab hlocks hG (by omega) h1q_1 h2q_1 h3q_1 (by decide) (by decide)
theorem k703_L_parent {n : Nat} {a2 : Int32} (g_a2_le_m1 : a2 ≤ (-1)) (hst : l.stackTraces = false) (hn : N0 + 231 ≤ n) (h0 : F N0 = some (.inr (9, [.ref (N0 + 1), .ref (N0 + 2), .ref (N0 + 11), .ref (N0 + 13), .ref (N0 + 63), .ref (N0 + 65), .ref (N0 + 85), .int (-1), .int (-1), .int 32]))) (h1 : F (N0 + 1) = some (.inl (cTr, 3, .inr (.inr (.inr (.inr (va_up (va_up (va_up (fun _ => none) 0 (some (N0 + 143))) 1 (some (N0 + 150))) 2 (some (N0 + 157))))))))) (h2 : F (N0 + 150) = some (.inr (7, [.ref (N0 + 151), .ref (N0 + 152), .ref (N0 + 153), .ref (N0 + 154), .ref (N0 + 155), .ref (N0 + 156), .int 1]))) : Met l yL_parent wsL_parent ({ frames := 8, cells := 1, slots := 6, locals := 128 }) (va_Pc [.ref N0, .int 1, .int a2, .ref (N0 + 229)] (fP N0 D vwCl (fty cI cC cL cD cII cTr cTm cIt cB) (fen ql) F n)) (fQi N0 D vwCl (fty cI cC cL cD cII cTr cTm cIt cB) (fun (r : Int32) (u : Nat) => r = 1 ∧ n ≤ u) (fun _ => F) (fun u => u)) 1 6 (fA N0) := by
  refine fx_startW (hh := [(0, 10, 13, 19), (0, 10, 17, 27)]) 5 rfl rfl (Nat.le_of_ble_eq_true rfl) ?_ rfl
  intro p e s m below meth c ls S htab hr hlocks hG hl
  have hl : lv_has ls 5 [(0, .ref N0), (1, .int 1), (2, .int a2), (3, .ref (N0 + 229))] := hl
  have lt_h0 := hG.1.lt h0
  have lt_h1 := hG.1.lt h1
  have lt_h2 := hG.1.lt h2
  refine lv_aload_n S.1 S.2.1 dL_parent_0 rfl (lv_at hl 3 rfl) ?_
  refine lv_iconst (v := 0) S.1 S.2.1 dL_parent_1 (by decide) ?_
  refine lv_aload_n S.1 S.2.1 dL_parent_2 rfl (lv_at hl 0 rfl) ?_
  refine lv_iload_n S.1 S.2.1 dL_parent_3 rfl (lv_at hl 1 rfl) ?_
  refine lv_iload_n S.1 S.2.1 dL_parent_4 rfl (lv_at hl 2 rfl) ?_
  refine fx_xV (As := [.int 1, .int a2]) (rest := [.int 0, .ref (N0 + 229)]) S hG (k702_X7_parent g_a2_le_m1 hst (by omega) h0 h1 h2) h0 rfl (cwV 2 S.2.2.2.2 gL_parent_X7_parent rfl rfl rfl (by decide +kernel) ⟨Nat.le_of_ble_eq_true rfl, Nat.le_of_ble_eq_true rfl⟩) rfl hl.1 rfl (Nat.le_of_ble_eq_true rfl) dL_parent_5 ⟨Nat.le_of_ble_eq_true rfl, Nat.le_of_ble_eq_true rfl⟩ (fun ceq_1 q_1 H locs n_2 hn_2 hG h1q_1 h2q_1 h3q_1 => ?_)
  refine fx_catch (hh := [(0, 10, 13, 19), (0, 10, 17, 27)]) S htab hG h1q_1 h2q_1 h3q_1 [] ⟨0, 10, 13, 19⟩ [⟨0, 10, 17, 27⟩] rfl [] (fun z hz => absurd hz List.not_mem_nil) (by decide) (by decide) (by decide +kernel) (List.mem_of_getElem? (i := 2) rfl) ?_
  refine lv_astore (lv' := [(4, .ref q_1), (0, .ref N0), (1, .int 1), (2, .int a2), (3, .ref (N0 + 229))]) S.1 S.2.1 dL_parent_13 hl (by decide) rfl (fun ls hl => ?_)
  refine lv_iconst (v := 1) S.1 S.2.1 dL_parent_15 (by decide) ?_
  exact fx_iret S hr hlocks n_2 hG (⟨rfl, hn_2⟩) dL_parent_16
theorem k704_X10_parent {n : Nat} {a2 : Int32} (g_a2_le_m1 : a2 ≤ (-1)) (hn : N0 + 231 ≤ n) (h0 : F (N0 + 164) = some (.inr (12, [.ref (N0 + 165), .int 0, .ref (N0 + 181), .int 0, .int 0, .int 0, .int (-1), .ref (ql 24), .ref (N0 + 182), .ref (N0 + 187), .ref (N0 + 208), .ref (N0 + 209), .ref (N0 + 210), .ref (N0 + 211), .ref (N0 + 212), .int 0, .ref (N0 + 213), .ref (N0 + 218), .ref (N0 + 223), .ref (N0 + 224), .ref (N0 + 225), .ref (N0 + 226), .ref (N0 + 227), .int 0, .int 0, .ref (N0 + 228), .null, .int (-1), .int 0, .int 0, .int 0]))) (h1 : F (N0 + 165) = some (.inl (cTm, 3, .inr (.inr (.inr (.inr (va_up (va_up (va_up (fun _ => none) 0 (some (N0 + 166))) 1 (some (N0 + 171))) 2 (some (N0 + 176))))))))) (h2 : F (N0 + 171) = some (.inr (11, [.ref (N0 + 172), .ref (N0 + 173), .ref (N0 + 174), .ref (N0 + 175), .int 1]))) : Met l yX10_parent wsX10_parent ({ frames := 4, cells := 0, slots := 0, locals := 86 }) (va_Pc [.ref (N0 + 164), .int 1, .int a2] (fP N0 D vwCl (fty cI cC cL cD cII cTr cTm cIt cB) (fen ql) F n)) (fQi N0 D vwCl (fty cI cC cL cD cII cTr cTm cIt cB) (fun (r : Int32) (_ : Unit) => r = 0) (fun _ => (fu F (N0 + 164) (.inr (12, [.ref (N0 + 165), .int 1, .ref (N0 + 181), .int 0, .int 0, .int 0, .int (-1), .ref (ql 24), .ref (N0 + 182), .ref (N0 + 187), .ref (N0 + 208), .ref (N0 + 209), .ref (N0 + 210), .ref (N0 + 211), .ref (N0 + 212), .int 0, .ref (N0 + 213), .ref (N0 + 218), .ref (N0 + 223), .ref (N0 + 224), .ref (N0 + 225), .ref (N0 + 226), .ref (N0 + 227), .int 0, .int 0, .ref (N0 + 228), .null, .int (-1), .int 0, .int 0, .int 0])))) (fun _ => n)) 0 0 (fA N0) := by
  refine fx_start 3 rfl rfl (Nat.le_of_ble_eq_true rfl) ?_ rfl
  intro p e s m below meth c ls S hr hlocks hin hG hl
  have hl : lv_has ls 3 [(0, .ref (N0 + 164)), (1, .int 1), (2, .int a2)] := hl
  have lt_h0 := hG.1.lt h0
  have lt_h1 := hG.1.lt h1
  have lt_h2 := hG.1.lt h2
  refine lv_aload_n S.1 S.2.1 dX10_parent_0 rfl (lv_at hl 0 rfl) ?_
  refine lv_iload_n S.1 S.2.1 dX10_parent_1 rfl (lv_at hl 1 rfl) ?_
  refine lv_iload_n S.1 S.2.1 dX10_parent_2 rfl (lv_at hl 2 rfl) ?_
  refine fx_cVi (As := [.int 1, .int a2]) (rest := []) S hG (k142_X10_isNowhere g_a2_le_m1 (by omega) h0 h1 h2) h0 rfl (cwV 2 S.2.2.2.2 gX10_parent_X10_isNowhere rfl rfl rfl (by decide +kernel) ⟨Nat.le_of_ble_eq_true rfl, Nat.le_of_ble_eq_true rfl⟩) rfl hl.1 rfl (Nat.le_of_ble_eq_true rfl) dX10_parent_3 ⟨Nat.le_of_ble_eq_true rfl, Nat.le_of_ble_eq_true rfl⟩ (fun rv_1 _ H locs hp hG => ?_)
  subst rv_1
  refine lv_if_eq (tgt := 11) S.1 S.2.1 dX10_parent_6 (by decide) (fun c => absurd c (by decide)) (fun _ => ?_)
  refine lv_iconst (v := 0) S.1 S.2.1 dX10_parent_9 (by decide) ?_
  exact fx_iret S hr hlocks () hG (rfl) dX10_parent_10
theorem k705_X7_parent {n : Nat} (hst : l.stackTraces = false) (hn : N0 + 231 ≤ n) (h0 : F N0 = some (.inr (9, [.ref (N0 + 1), .ref (N0 + 2), .ref (N0 + 11), .ref (N0 + 13), .ref (N0 + 63), .ref (N0 + 65), .ref (N0 + 85), .int (-1), .int (-1), .int 32]))) (h1 : F (N0 + 1) = some (.inl (cTr, 3, .inr (.inr (.inr (.inr (va_up (va_up (va_up (fun _ => none) 0 (some (N0 + 143))) 1 (some (N0 + 150))) 2 (some (N0 + 157))))))))) (h2 : F (N0 + 150) = some (.inr (7, [.ref (N0 + 151), .ref (N0 + 152), .ref (N0 + 153), .ref (N0 + 154), .ref (N0 + 155), .ref (N0 + 156), .int 1]))) : vx_Met l yX7_parent wsX7_parent ({ frames := 6, cells := 1, slots := 6, locals := 82 }) (va_Pc [.ref N0, .int 1, .int 0] (fP N0 D vwCl (fty cI cC cL cD cII cTr cTm cIt cB) (fen ql) F n)) (fNo N0 D vwCl (fty cI cC cL cD cII cTr cTm cIt cB) F n) (fXC N0 D vwCl (fty cI cC cL cD cII cTr cTm cIt cB) "java/util/NoSuchElementException" F n) 1 6 (fA N0) := by
  refine fx_startX 4 rfl rfl (Nat.le_of_ble_eq_true rfl) ?_ rfl
  intro p e s m below meth c ls S htab hlocks hG hl
  have hl : lv_has ls 4 [(0, .ref N0), (1, .int 1), (2, .int 0)] := hl
  have lt_h0 := hG.1.lt h0
  have lt_h1 := hG.1.lt h1
  have lt_h2 := hG.1.lt h2
  refine lv_aload_n S.1 S.2.1 dX7_parent_0 rfl (lv_at hl 0 rfl) ?_
  refine lv_iload_n S.1 S.2.1 dX7_parent_1 rfl (lv_at hl 1 rfl) ?_
  refine lv_iload_n S.1 S.2.1 dX7_parent_2 rfl (lv_at hl 2 rfl) ?_
  refine fx_cVr (As := [.int 1, .int 0]) (rest := []) S hG (k145_X7_treeWith (by omega) h0 h1 h2) h0 rfl (cwV 2 S.2.2.2.2 gX7_parent_X7_treeWith rfl rfl rfl (by decide +kernel) ⟨Nat.le_of_ble_eq_true rfl, Nat.le_of_ble_eq_true rfl⟩) rfl hl.1 rfl (Nat.le_of_ble_eq_true rfl) dX7_parent_3 ⟨Nat.le_of_ble_eq_true rfl, Nat.le_of_ble_eq_true rfl⟩ (fun rv_1 _ H locs hp hG => ?_)
  subst rv_1
  refine lv_astore_n (lv' := [(3, .ref (N0 + 150)), (0, .ref N0), (1, .int 1), (2, .int 0)]) S.1 S.2.1 dX7_parent_6 rfl hl (by decide) rfl (fun ls hl => ?_)
  refine lv_iload_n S.1 S.2.1 dX7_parent_7 rfl (lv_at hl 3 rfl) ?_
  refine lv_if_ne (tgt := 21) S.1 S.2.1 dX7_parent_8 (by decide) (fun c => absurd (by decide) c) (fun _ => ?_)
  exact fx_throwX (text := "the root has no parent") S hG hl.1 hst (by decide) (by decide +kernel) (by decide +kernel) (List.mem_of_getElem? (i := 11) rfl) (by decide +kernel) (by decide +kernel) (by decide +kernel) (List.mem_of_getElem? (i := 3) rfl) (List.mem_of_getElem? (i := 0) rfl) (List.mem_of_getElem? (i := 1) rfl) (List.mem_of_getElem? (i := 2) rfl) dX7_parent_11 dX7_parent_14 dX7_parent_15 dX7_parent_17 dX7_parent_20 htab (by decide) (Nat.le_of_ble_eq_true rfl) (by decide) (by decide) hlocks (by decide) (by decide)
theorem k706_L_parent {n : Nat} (hst : l.stackTraces = false) (hn : N0 + 231 ≤ n) (h0 : F N0 = some (.inr (9, [.ref (N0 + 1), .ref (N0 + 2), .ref (N0 + 11), .ref (N0 + 13), .ref (N0 + 63), .ref (N0 + 65), .ref (N0 + 85), .int (-1), .int (-1), .int 32]))) (h1 : F (N0 + 1) = some (.inl (cTr, 3, .inr (.inr (.inr (.inr (va_up (va_up (va_up (fun _ => none) 0 (some (N0 + 143))) 1 (some (N0 + 150))) 2 (some (N0 + 157))))))))) (h2 : F (N0 + 150) = some (.inr (7, [.ref (N0 + 151), .ref (N0 + 152), .ref (N0 + 153), .ref (N0 + 154), .ref (N0 + 155), .ref (N0 + 156), .int 1]))) : Met l yL_parent wsL_parent ({ frames := 7, cells := 1, slots := 6, locals := 105 }) (va_Pc [.ref N0, .int 1, .int 0, .ref (N0 + 229)] (fP N0 D vwCl (fty cI cC cL cD cII cTr cTm cIt cB) (fen ql) F n)) (fQi N0 D vwCl (fty cI cC cL cD cII cTr cTm cIt cB) (fun (r : Int32) (u : Nat) => r = 2 ∧ n ≤ u) (fun _ => F) (fun u => u)) 1 6 (fA N0) := by
  refine fx_startW (hh := [(0, 10, 13, 19), (0, 10, 17, 27)]) 5 rfl rfl (Nat.le_of_ble_eq_true rfl) ?_ rfl
  intro p e s m below meth c ls S htab hr hlocks hG hl
  have hl : lv_has ls 5 [(0, .ref N0), (1, .int 1), (2, .int 0), (3, .ref (N0 + 229))] := hl
  have lt_h0 := hG.1.lt h0
  have lt_h1 := hG.1.lt h1
  have lt_h2 := hG.1.lt h2
  refine lv_aload_n S.1 S.2.1 dL_parent_0 rfl (lv_at hl 3 rfl) ?_
  refine lv_iconst (v := 0) S.1 S.2.1 dL_parent_1 (by decide) ?_
  refine lv_aload_n S.1 S.2.1 dL_parent_2 rfl (lv_at hl 0 rfl) ?_
  refine lv_iload_n S.1 S.2.1 dL_parent_3 rfl (lv_at hl 1 rfl) ?_
  refine lv_iload_n S.1 S.2.1 dL_parent_4 rfl (lv_at hl 2 rfl) ?_
  refine fx_xV (As := [.int 1, .int 0]) (rest := [.int 0, .ref (N0 + 229)]) S hG (k705_X7_parent hst (by omega) h0 h1 h2) h0 rfl (cwV 2 S.2.2.2.2 gL_parent_X7_parent rfl rfl rfl (by decide +kernel) ⟨Nat.le_of_ble_eq_true rfl, Nat.le_of_ble_eq_true rfl⟩) rfl hl.1 rfl (Nat.le_of_ble_eq_true rfl) dL_parent_5 ⟨Nat.le_of_ble_eq_true rfl, Nat.le_of_ble_eq_true rfl⟩ (fun ceq_1 q_1 H locs n_2 hn_2 hG h1q_1 h2q_1 h3q_1 => ?_)
  refine fx_catch (hh := [(0, 10, 13, 19), (0, 10, 17, 27)]) S htab hG h1q_1 h2q_1 h3q_1 [⟨0, 10, 13, 19⟩] ⟨0, 10, 17, 27⟩ [] rfl [] (fun z hz => by
    simp only [List.mem_cons, List.not_mem_nil, or_false] at hz
    rcases hz with rfl
    · exact ⟨by decide, "java/lang/IndexOutOfBoundsException", by decide +kernel, List.mem_of_getElem? (i := 14) rfl⟩) (by decide) (by decide) (by decide +kernel) (List.mem_of_getElem? (i := 3) rfl) ?_
  refine lv_astore (lv' := [(4, .ref q_1), (0, .ref N0), (1, .int 1), (2, .int 0), (3, .ref (N0 + 229))]) S.1 S.2.1 dL_parent_17 hl (by decide) rfl (fun ls hl => ?_)
  refine lv_iconst (v := 2) S.1 S.2.1 dL_parent_19 (by decide) ?_
  exact fx_iret S hr hlocks n_2 hG (⟨rfl, hn_2⟩) dL_parent_20
theorem k707_X10_parent {n : Nat} (hn : N0 + 231 ≤ n) (h0 : F (N0 + 164) = some (.inr (12, [.ref (N0 + 165), .int 0, .ref (N0 + 181), .int 0, .int 0, .int 0, .int (-1), .ref (ql 24), .ref (N0 + 182), .ref (N0 + 187), .ref (N0 + 208), .ref (N0 + 209), .ref (N0 + 210), .ref (N0 + 211), .ref (N0 + 212), .int 0, .ref (N0 + 213), .ref (N0 + 218), .ref (N0 + 223), .ref (N0 + 224), .ref (N0 + 225), .ref (N0 + 226), .ref (N0 + 227), .int 0, .int 0, .ref (N0 + 228), .null, .int (-1), .int 0, .int 0, .int 0]))) (h1 : F (N0 + 165) = some (.inl (cTm, 3, .inr (.inr (.inr (.inr (va_up (va_up (va_up (fun _ => none) 0 (some (N0 + 166))) 1 (some (N0 + 171))) 2 (some (N0 + 176))))))))) (h2 : F (N0 + 171) = some (.inr (11, [.ref (N0 + 172), .ref (N0 + 173), .ref (N0 + 174), .ref (N0 + 175), .int 1]))) : Met l yX10_parent wsX10_parent ({ frames := 4, cells := 0, slots := 0, locals := 86 }) (va_Pc [.ref (N0 + 164), .int 1, .int 0] (fP N0 D vwCl (fty cI cC cL cD cII cTr cTm cIt cB) (fen ql) F n)) (fQi N0 D vwCl (fty cI cC cL cD cII cTr cTm cIt cB) (fun (r : Int32) (_ : Unit) => r = 0) (fun _ => (fu F (N0 + 164) (.inr (12, [.ref (N0 + 165), .int 2, .ref (N0 + 181), .int 0, .int 0, .int 0, .int (-1), .ref (ql 24), .ref (N0 + 182), .ref (N0 + 187), .ref (N0 + 208), .ref (N0 + 209), .ref (N0 + 210), .ref (N0 + 211), .ref (N0 + 212), .int 0, .ref (N0 + 213), .ref (N0 + 218), .ref (N0 + 223), .ref (N0 + 224), .ref (N0 + 225), .ref (N0 + 226), .ref (N0 + 227), .int 0, .int 0, .ref (N0 + 228), .null, .int (-1), .int 0, .int 0, .int 0])))) (fun _ => n)) 0 0 (fA N0) := by
  refine fx_start 3 rfl rfl (Nat.le_of_ble_eq_true rfl) ?_ rfl
  intro p e s m below meth c ls S hr hlocks hin hG hl
  have hl : lv_has ls 3 [(0, .ref (N0 + 164)), (1, .int 1), (2, .int 0)] := hl
  have lt_h0 := hG.1.lt h0
  have lt_h1 := hG.1.lt h1
  have lt_h2 := hG.1.lt h2
  refine lv_aload_n S.1 S.2.1 dX10_parent_0 rfl (lv_at hl 0 rfl) ?_
  refine lv_iload_n S.1 S.2.1 dX10_parent_1 rfl (lv_at hl 1 rfl) ?_
  refine lv_iload_n S.1 S.2.1 dX10_parent_2 rfl (lv_at hl 2 rfl) ?_
  refine fx_cVi (As := [.int 1, .int 0]) (rest := []) S hG (k149_X10_isNowhere (by omega) h0 h1 h2) h0 rfl (cwV 2 S.2.2.2.2 gX10_parent_X10_isNowhere rfl rfl rfl (by decide +kernel) ⟨Nat.le_of_ble_eq_true rfl, Nat.le_of_ble_eq_true rfl⟩) rfl hl.1 rfl (Nat.le_of_ble_eq_true rfl) dX10_parent_3 ⟨Nat.le_of_ble_eq_true rfl, Nat.le_of_ble_eq_true rfl⟩ (fun rv_1 _ H locs hp hG => ?_)
  subst rv_1
  refine lv_if_eq (tgt := 11) S.1 S.2.1 dX10_parent_6 (by decide) (fun _ => ?_) (fun c => absurd (by decide) c)
  refine lv_iload_n S.1 S.2.1 dX10_parent_11 rfl (lv_at hl 2 rfl) ?_
  refine lv_if_ne (tgt := 23) S.1 S.2.1 dX10_parent_12 (by decide) (fun c => absurd (by decide) c) (fun _ => ?_)
  refine lv_aload_n S.1 S.2.1 dX10_parent_15 rfl (lv_at hl 0 rfl) ?_
  refine lv_iconst (v := 2) S.1 S.2.1 dX10_parent_16 (by decide) ?_
  refine fx_cVi (As := [.int 2]) (rest := []) S hG (k99_X10_fails (by omega) fu_s) fu_s rfl (cwV 1 S.2.2.2.2 gX10_parent_X10_fails rfl rfl rfl (by decide +kernel) ⟨Nat.le_of_ble_eq_true rfl, Nat.le_of_ble_eq_true rfl⟩) rfl hl.1 rfl (Nat.le_of_ble_eq_true rfl) dX10_parent_17 ⟨Nat.le_of_ble_eq_true rfl, Nat.le_of_ble_eq_true rfl⟩ (fun rv_2 _ H locs hp hG => ?_)
  subst rv_2
  refine lv_goto (tgt := 34) S.1 S.2.1 dX10_parent_20 (by decide) ?_
  have hG : fG N0 D vwCl (fty cI cC cL cD cII cTr cTm cIt cB) (fen ql) s (fu F (N0 + 164) (.inr (12, [.ref (N0 + 165), .int 2, .ref (N0 + 181), .int 0, .int 0, .int 0, .int (-1), .ref (ql 24), .ref (N0 + 182), .ref (N0 + 187), .ref (N0 + 208), .ref (N0 + 209), .ref (N0 + 210), .ref (N0 + 211), .ref (N0 + 212), .int 0, .ref (N0 + 213), .ref (N0 + 218), .ref (N0 + 223), .ref (N0 + 224), .ref (N0 + 225), .ref (N0 + 226), .ref (N0 + 227), .int 0, .int 0, .ref (N0 + 228), .null, .int (-1), .int 0, .int 0, .int 0]))) n H locs := hG.weak (fun a e h => by
    rcases fu_cases h with ⟨rfl, he⟩ | ⟨hne0, h⟩
    · cases he; exact fu_s
    · exact (fu_at (by omega) (fu_at (by omega) h)))
  exact fx_iret S hr hlocks () hG (rfl) dX10_parent_34
theorem k708_X7_parent {n : Nat} {a2 : Int32} (g_a2_ge_1 : 1 ≤ a2) (hst : l.stackTraces = false) (hn : N0 + 231 ≤ n) (h0 : F N0 = some (.inr (9, [.ref (N0 + 1), .ref (N0 + 2), .ref (N0 + 11), .ref (N0 + 13), .ref (N0 + 63), .ref (N0 + 65), .ref (N0 + 85), .int (-1), .int (-1), .int 32]))) (h1 : F (N0 + 1) = some (.inl (cTr, 3, .inr (.inr (.inr (.inr (va_up (va_up (va_up (fun _ => none) 0 (some (N0 + 143))) 1 (some (N0 + 150))) 2 (some (N0 + 157))))))))) (h2 : F (N0 + 150) = some (.inr (7, [.ref (N0 + 151), .ref (N0 + 152), .ref (N0 + 153), .ref (N0 + 154), .ref (N0 + 155), .ref (N0 + 156), .int 1]))) : vx_Met l yX7_parent wsX7_parent ({ frames := 7, cells := 1, slots := 6, locals := 105 }) (va_Pc [.ref N0, .int 1, .int a2] (fP N0 D vwCl (fty cI cC cL cD cII cTr cTm cIt cB) (fen ql) F n)) (fNo N0 D vwCl (fty cI cC cL cD cII cTr cTm cIt cB) F n) (fXC N0 D vwCl (fty cI cC cL cD cII cTr cTm cIt cB) "java/lang/IndexOutOfBoundsException" F n) 1 6 (fA N0) := by
  refine fx_startX 4 rfl rfl (Nat.le_of_ble_eq_true rfl) ?_ rfl
  intro p e s m below meth c ls S htab hlocks hG hl
  have hl : lv_has ls 4 [(0, .ref N0), (1, .int 1), (2, .int a2)] := hl
  have lt_h0 := hG.1.lt h0
  have lt_h1 := hG.1.lt h1
  have lt_h2 := hG.1.lt h2
  refine lv_aload_n S.1 S.2.1 dX7_parent_0 rfl (lv_at hl 0 rfl) ?_
  refine lv_iload_n S.1 S.2.1 dX7_parent_1 rfl (lv_at hl 1 rfl) ?_
  refine lv_iload_n S.1 S.2.1 dX7_parent_2 rfl (lv_at hl 2 rfl) ?_
  refine fx_xV (As := [.int 1, .int a2]) (rest := []) S hG (k175_X7_treeWith g_a2_ge_1 hst (by omega) h0 h1 h2) h0 rfl (cwV 2 S.2.2.2.2 gX7_parent_X7_treeWith rfl rfl rfl (by decide +kernel) ⟨Nat.le_of_ble_eq_true rfl, Nat.le_of_ble_eq_true rfl⟩) rfl hl.1 rfl (Nat.le_of_ble_eq_true rfl) dX7_parent_3 ⟨Nat.le_of_ble_eq_true rfl, Nat.le_of_ble_eq_true rfl⟩ (fun ceq_1 q_1 H locs n_2 hn_2 hG h1q_1 h2q_1 h3q_1 => ?_)
  exact fx_out htab hlocks hG (by omega) h1q_1 h2q_1 h3q_1 (by decide) (by decide)
theorem k709_L_parent {n : Nat} {a2 : Int32} (g_a2_ge_1 : 1 ≤ a2) (hst : l.stackTraces = false) (hn : N0 + 231 ≤ n) (h0 : F N0 = some (.inr (9, [.ref (N0 + 1), .ref (N0 + 2), .ref (N0 + 11), .ref (N0 + 13), .ref (N0 + 63), .ref (N0 + 65), .ref (N0 + 85), .int (-1), .int (-1), .int 32]))) (h1 : F (N0 + 1) = some (.inl (cTr, 3, .inr (.inr (.inr (.inr (va_up (va_up (va_up (fun _ => none) 0 (some (N0 + 143))) 1 (some (N0 + 150))) 2 (some (N0 + 157))))))))) (h2 : F (N0 + 150) = some (.inr (7, [.ref (N0 + 151), .ref (N0 + 152), .ref (N0 + 153), .ref (N0 + 154), .ref (N0 + 155), .ref (N0 + 156), .int 1]))) : Met l yL_parent wsL_parent ({ frames := 8, cells := 1, slots := 6, locals := 128 }) (va_Pc [.ref N0, .int 1, .int a2, .ref (N0 + 229)] (fP N0 D vwCl (fty cI cC cL cD cII cTr cTm cIt cB) (fen ql) F n)) (fQi N0 D vwCl (fty cI cC cL cD cII cTr cTm cIt cB) (fun (r : Int32) (u : Nat) => r = 1 ∧ n ≤ u) (fun _ => F) (fun u => u)) 1 6 (fA N0) := by
  refine fx_startW (hh := [(0, 10, 13, 19), (0, 10, 17, 27)]) 5 rfl rfl (Nat.le_of_ble_eq_true rfl) ?_ rfl
  intro p e s m below meth c ls S htab hr hlocks hG hl
  have hl : lv_has ls 5 [(0, .ref N0), (1, .int 1), (2, .int a2), (3, .ref (N0 + 229))] := hl
  have lt_h0 := hG.1.lt h0
  have lt_h1 := hG.1.lt h1
  have lt_h2 := hG.1.lt h2
  refine lv_aload_n S.1 S.2.1 dL_parent_0 rfl (lv_at hl 3 rfl) ?_
  refine lv_iconst (v := 0) S.1 S.2.1 dL_parent_1 (by decide) ?_
  refine lv_aload_n S.1 S.2.1 dL_parent_2 rfl (lv_at hl 0 rfl) ?_
  refine lv_iload_n S.1 S.2.1 dL_parent_3 rfl (lv_at hl 1 rfl) ?_
  refine lv_iload_n S.1 S.2.1 dL_parent_4 rfl (lv_at hl 2 rfl) ?_
  refine fx_xV (As := [.int 1, .int a2]) (rest := [.int 0, .ref (N0 + 229)]) S hG (k708_X7_parent g_a2_ge_1 hst (by omega) h0 h1 h2) h0 rfl (cwV 2 S.2.2.2.2 gL_parent_X7_parent rfl rfl rfl (by decide +kernel) ⟨Nat.le_of_ble_eq_true rfl, Nat.le_of_ble_eq_true rfl⟩) rfl hl.1 rfl (Nat.le_of_ble_eq_true rfl) dL_parent_5 ⟨Nat.le_of_ble_eq_true rfl, Nat.le_of_ble_eq_true rfl⟩ (fun ceq_1 q_1 H locs n_2 hn_2 hG h1q_1 h2q_1 h3q_1 => ?_)
  refine fx_catch (hh := [(0, 10, 13, 19), (0, 10, 17, 27)]) S htab hG h1q_1 h2q_1 h3q_1 [] ⟨0, 10, 13, 19⟩ [⟨0, 10, 17, 27⟩] rfl [] (fun z hz => absurd hz List.not_mem_nil) (by decide) (by decide) (by decide +kernel) (List.mem_of_getElem? (i := 2) rfl) ?_
  refine lv_astore (lv' := [(4, .ref q_1), (0, .ref N0), (1, .int 1), (2, .int a2), (3, .ref (N0 + 229))]) S.1 S.2.1 dL_parent_13 hl (by decide) rfl (fun ls hl => ?_)
  refine lv_iconst (v := 1) S.1 S.2.1 dL_parent_15 (by decide) ?_
  exact fx_iret S hr hlocks n_2 hG (⟨rfl, hn_2⟩) dL_parent_16
theorem k710_X10_parent {n : Nat} {a2 : Int32} (g_a2_ge_1 : 1 ≤ a2) (hn : N0 + 231 ≤ n) (h0 : F (N0 + 164) = some (.inr (12, [.ref (N0 + 165), .int 0, .ref (N0 + 181), .int 0, .int 0, .int 0, .int (-1), .ref (ql 24), .ref (N0 + 182), .ref (N0 + 187), .ref (N0 + 208), .ref (N0 + 209), .ref (N0 + 210), .ref (N0 + 211), .ref (N0 + 212), .int 0, .ref (N0 + 213), .ref (N0 + 218), .ref (N0 + 223), .ref (N0 + 224), .ref (N0 + 225), .ref (N0 + 226), .ref (N0 + 227), .int 0, .int 0, .ref (N0 + 228), .null, .int (-1), .int 0, .int 0, .int 0]))) (h1 : F (N0 + 165) = some (.inl (cTm, 3, .inr (.inr (.inr (.inr (va_up (va_up (va_up (fun _ => none) 0 (some (N0 + 166))) 1 (some (N0 + 171))) 2 (some (N0 + 176))))))))) (h2 : F (N0 + 171) = some (.inr (11, [.ref (N0 + 172), .ref (N0 + 173), .ref (N0 + 174), .ref (N0 + 175), .int 1]))) : Met l yX10_parent wsX10_parent ({ frames := 4, cells := 0, slots := 0, locals := 86 }) (va_Pc [.ref (N0 + 164), .int 1, .int a2] (fP N0 D vwCl (fty cI cC cL cD cII cTr cTm cIt cB) (fen ql) F n)) (fQi N0 D vwCl (fty cI cC cL cD cII cTr cTm cIt cB) (fun (r : Int32) (_ : Unit) => r = 0) (fun _ => (fu F (N0 + 164) (.inr (12, [.ref (N0 + 165), .int 1, .ref (N0 + 181), .int 0, .int 0, .int 0, .int (-1), .ref (ql 24), .ref (N0 + 182), .ref (N0 + 187), .ref (N0 + 208), .ref (N0 + 209), .ref (N0 + 210), .ref (N0 + 211), .ref (N0 + 212), .int 0, .ref (N0 + 213), .ref (N0 + 218), .ref (N0 + 223), .ref (N0 + 224), .ref (N0 + 225), .ref (N0 + 226), .ref (N0 + 227), .int 0, .int 0, .ref (N0 + 228), .null, .int (-1), .int 0, .int 0, .int 0])))) (fun _ => n)) 0 0 (fA N0) := by
  refine fx_start 3 rfl rfl (Nat.le_of_ble_eq_true rfl) ?_ rfl
  intro p e s m below meth c ls S hr hlocks hin hG hl
  have hl : lv_has ls 3 [(0, .ref (N0 + 164)), (1, .int 1), (2, .int a2)] := hl
  have lt_h0 := hG.1.lt h0
  have lt_h1 := hG.1.lt h1
  have lt_h2 := hG.1.lt h2
  refine lv_aload_n S.1 S.2.1 dX10_parent_0 rfl (lv_at hl 0 rfl) ?_
  refine lv_iload_n S.1 S.2.1 dX10_parent_1 rfl (lv_at hl 1 rfl) ?_
  refine lv_iload_n S.1 S.2.1 dX10_parent_2 rfl (lv_at hl 2 rfl) ?_
  refine fx_cVi (As := [.int 1, .int a2]) (rest := []) S hG (k179_X10_isNowhere g_a2_ge_1 (by omega) h0 h1 h2) h0 rfl (cwV 2 S.2.2.2.2 gX10_parent_X10_isNowhere rfl rfl rfl (by decide +kernel) ⟨Nat.le_of_ble_eq_true rfl, Nat.le_of_ble_eq_true rfl⟩) rfl hl.1 rfl (Nat.le_of_ble_eq_true rfl) dX10_parent_3 ⟨Nat.le_of_ble_eq_true rfl, Nat.le_of_ble_eq_true rfl⟩ (fun rv_1 _ H locs hp hG => ?_)
  subst rv_1
  refine lv_if_eq (tgt := 11) S.1 S.2.1 dX10_parent_6 (by decide) (fun c => absurd c (by decide)) (fun _ => ?_)
  refine lv_iconst (v := 0) S.1 S.2.1 dX10_parent_9 (by decide) ?_
  exact fx_iret S hr hlocks () hG (rfl) dX10_parent_10
theorem k711_X7_parent {n : Nat} {a2 : Int32} (g_a2_le_m1 : a2 ≤ (-1)) (hst : l.stackTraces = false) (hn : N0 + 231 ≤ n) (h0 : F N0 = some (.inr (9, [.ref (N0 + 1), .ref (N0 + 2), .ref (N0 + 11), .ref (N0 + 13), .ref (N0 + 63), .ref (N0 + 65), .ref (N0 + 85), .int (-1), .int (-1), .int 32]))) (h1 : F (N0 + 1) = some (.inl (cTr, 3, .inr (.inr (.inr (.inr (va_up (va_up (va_up (fun _ => none) 0 (some (N0 + 143))) 1 (some (N0 + 150))) 2 (some (N0 + 157))))))))) (h2 : F (N0 + 157) = some (.inr (7, [.ref (N0 + 158), .ref (N0 + 159), .ref (N0 + 160), .ref (N0 + 161), .ref (N0 + 162), .ref (N0 + 163), .int 1]))) : vx_Met l yX7_parent wsX7_parent ({ frames := 7, cells := 1, slots := 6, locals := 105 }) (va_Pc [.ref N0, .int 2, .int a2] (fP N0 D vwCl (fty cI cC cL cD cII cTr cTm cIt cB) (fen ql) F n)) (fNo N0 D vwCl (fty cI cC cL cD cII cTr cTm cIt cB) F n) (fXC N0 D vwCl (fty cI cC cL cD cII cTr cTm cIt cB) "java/lang/IndexOutOfBoundsException" F n) 1 6 (fA N0) := by
  refine fx_startX 4 rfl rfl (Nat.le_of_ble_eq_true rfl) ?_ rfl
  intro p e s m below meth c ls S htab hlocks hG hl
  have hl : lv_has ls 4 [(0, .ref N0), (1, .int 2), (2, .int a2)] := hl
  have lt_h0 := hG.1.lt h0
  have lt_h1 := hG.1.lt h1
  have lt_h2 := hG.1.lt h2
  refine lv_aload_n S.1 S.2.1 dX7_parent_0 rfl (lv_at hl 0 rfl) ?_
  refine lv_iload_n S.1 S.2.1 dX7_parent_1 rfl (lv_at hl 1 rfl) ?_
  refine lv_iload_n S.1 S.2.1 dX7_parent_2 rfl (lv_at hl 2 rfl) ?_
  refine fx_xV (As := [.int 2, .int a2]) (rest := []) S hG (k182_X7_treeWith g_a2_le_m1 hst (by omega) h0 h1 h2) h0 rfl (cwV 2 S.2.2.2.2 gX7_parent_X7_treeWith rfl rfl rfl (by decide +kernel) ⟨Nat.le_of_ble_eq_true rfl, Nat.le_of_ble_eq_true rfl⟩) rfl hl.1 rfl (Nat.le_of_ble_eq_true rfl) dX7_parent_3 ⟨Nat.le_of_ble_eq_true rfl, Nat.le_of_ble_eq_true rfl⟩ (fun ceq_1 q_1 H locs n_2 hn_2 hG h1q_1 h2q_1 h3q_1 => ?_)
  exact fx_out htab hlocks hG (by omega) h1q_1 h2q_1 h3q_1 (by decide) (by decide)
theorem k712_L_parent {n : Nat} {a2 : Int32} (g_a2_le_m1 : a2 ≤ (-1)) (hst : l.stackTraces = false) (hn : N0 + 231 ≤ n) (h0 : F N0 = some (.inr (9, [.ref (N0 + 1), .ref (N0 + 2), .ref (N0 + 11), .ref (N0 + 13), .ref (N0 + 63), .ref (N0 + 65), .ref (N0 + 85), .int (-1), .int (-1), .int 32]))) (h1 : F (N0 + 1) = some (.inl (cTr, 3, .inr (.inr (.inr (.inr (va_up (va_up (va_up (fun _ => none) 0 (some (N0 + 143))) 1 (some (N0 + 150))) 2 (some (N0 + 157))))))))) (h2 : F (N0 + 157) = some (.inr (7, [.ref (N0 + 158), .ref (N0 + 159), .ref (N0 + 160), .ref (N0 + 161), .ref (N0 + 162), .ref (N0 + 163), .int 1]))) : Met l yL_parent wsL_parent ({ frames := 8, cells := 1, slots := 6, locals := 128 }) (va_Pc [.ref N0, .int 2, .int a2, .ref (N0 + 229)] (fP N0 D vwCl (fty cI cC cL cD cII cTr cTm cIt cB) (fen ql) F n)) (fQi N0 D vwCl (fty cI cC cL cD cII cTr cTm cIt cB) (fun (r : Int32) (u : Nat) => r = 1 ∧ n ≤ u) (fun _ => F) (fun u => u)) 1 6 (fA N0) := by
  refine fx_startW (hh := [(0, 10, 13, 19), (0, 10, 17, 27)]) 5 rfl rfl (Nat.le_of_ble_eq_true rfl) ?_ rfl
  intro p e s m below meth c ls S htab hr hlocks hG hl
  have hl : lv_has ls 5 [(0, .ref N0), (1, .int 2), (2, .int a2), (3, .ref (N0 + 229))] := hl
  have lt_h0 := hG.1.lt h0
  have lt_h1 := hG.1.lt h1
  have lt_h2 := hG.1.lt h2
  refine lv_aload_n S.1 S.2.1 dL_parent_0 rfl (lv_at hl 3 rfl) ?_
  refine lv_iconst (v := 0) S.1 S.2.1 dL_parent_1 (by decide) ?_
  refine lv_aload_n S.1 S.2.1 dL_parent_2 rfl (lv_at hl 0 rfl) ?_
  refine lv_iload_n S.1 S.2.1 dL_parent_3 rfl (lv_at hl 1 rfl) ?_
  refine lv_iload_n S.1 S.2.1 dL_parent_4 rfl (lv_at hl 2 rfl) ?_
  refine fx_xV (As := [.int 2, .int a2]) (rest := [.int 0, .ref (N0 + 229)]) S hG (k711_X7_parent g_a2_le_m1 hst (by omega) h0 h1 h2) h0 rfl (cwV 2 S.2.2.2.2 gL_parent_X7_parent rfl rfl rfl (by decide +kernel) ⟨Nat.le_of_ble_eq_true rfl, Nat.le_of_ble_eq_true rfl⟩) rfl hl.1 rfl (Nat.le_of_ble_eq_true rfl) dL_parent_5 ⟨Nat.le_of_ble_eq_true rfl, Nat.le_of_ble_eq_true rfl⟩ (fun ceq_1 q_1 H locs n_2 hn_2 hG h1q_1 h2q_1 h3q_1 => ?_)
  refine fx_catch (hh := [(0, 10, 13, 19), (0, 10, 17, 27)]) S htab hG h1q_1 h2q_1 h3q_1 [] ⟨0, 10, 13, 19⟩ [⟨0, 10, 17, 27⟩] rfl [] (fun z hz => absurd hz List.not_mem_nil) (by decide) (by decide) (by decide +kernel) (List.mem_of_getElem? (i := 2) rfl) ?_
  refine lv_astore (lv' := [(4, .ref q_1), (0, .ref N0), (1, .int 2), (2, .int a2), (3, .ref (N0 + 229))]) S.1 S.2.1 dL_parent_13 hl (by decide) rfl (fun ls hl => ?_)
  refine lv_iconst (v := 1) S.1 S.2.1 dL_parent_15 (by decide) ?_
  exact fx_iret S hr hlocks n_2 hG (⟨rfl, hn_2⟩) dL_parent_16
theorem k713_X10_parent {n : Nat} {a2 : Int32} (g_a2_le_m1 : a2 ≤ (-1)) (hn : N0 + 231 ≤ n) (h0 : F (N0 + 164) = some (.inr (12, [.ref (N0 + 165), .int 0, .ref (N0 + 181), .int 0, .int 0, .int 0, .int (-1), .ref (ql 24), .ref (N0 + 182), .ref (N0 + 187), .ref (N0 + 208), .ref (N0 + 209), .ref (N0 + 210), .ref (N0 + 211), .ref (N0 + 212), .int 0, .ref (N0 + 213), .ref (N0 + 218), .ref (N0 + 223), .ref (N0 + 224), .ref (N0 + 225), .ref (N0 + 226), .ref (N0 + 227), .int 0, .int 0, .ref (N0 + 228), .null, .int (-1), .int 0, .int 0, .int 0]))) (h1 : F (N0 + 165) = some (.inl (cTm, 3, .inr (.inr (.inr (.inr (va_up (va_up (va_up (fun _ => none) 0 (some (N0 + 166))) 1 (some (N0 + 171))) 2 (some (N0 + 176))))))))) (h2 : F (N0 + 176) = some (.inr (11, [.ref (N0 + 177), .ref (N0 + 178), .ref (N0 + 179), .ref (N0 + 180), .int 1]))) : Met l yX10_parent wsX10_parent ({ frames := 4, cells := 0, slots := 0, locals := 86 }) (va_Pc [.ref (N0 + 164), .int 2, .int a2] (fP N0 D vwCl (fty cI cC cL cD cII cTr cTm cIt cB) (fen ql) F n)) (fQi N0 D vwCl (fty cI cC cL cD cII cTr cTm cIt cB) (fun (r : Int32) (_ : Unit) => r = 0) (fun _ => (fu F (N0 + 164) (.inr (12, [.ref (N0 + 165), .int 1, .ref (N0 + 181), .int 0, .int 0, .int 0, .int (-1), .ref (ql 24), .ref (N0 + 182), .ref (N0 + 187), .ref (N0 + 208), .ref (N0 + 209), .ref (N0 + 210), .ref (N0 + 211), .ref (N0 + 212), .int 0, .ref (N0 + 213), .ref (N0 + 218), .ref (N0 + 223), .ref (N0 + 224), .ref (N0 + 225), .ref (N0 + 226), .ref (N0 + 227), .int 0, .int 0, .ref (N0 + 228), .null, .int (-1), .int 0, .int 0, .int 0])))) (fun _ => n)) 0 0 (fA N0) := by
  refine fx_start 3 rfl rfl (Nat.le_of_ble_eq_true rfl) ?_ rfl
  intro p e s m below meth c ls S hr hlocks hin hG hl
  have hl : lv_has ls 3 [(0, .ref (N0 + 164)), (1, .int 2), (2, .int a2)] := hl
  have lt_h0 := hG.1.lt h0
  have lt_h1 := hG.1.lt h1
  have lt_h2 := hG.1.lt h2
  refine lv_aload_n S.1 S.2.1 dX10_parent_0 rfl (lv_at hl 0 rfl) ?_
  refine lv_iload_n S.1 S.2.1 dX10_parent_1 rfl (lv_at hl 1 rfl) ?_
  refine lv_iload_n S.1 S.2.1 dX10_parent_2 rfl (lv_at hl 2 rfl) ?_
  refine fx_cVi (As := [.int 2, .int a2]) (rest := []) S hG (k186_X10_isNowhere g_a2_le_m1 (by omega) h0 h1 h2) h0 rfl (cwV 2 S.2.2.2.2 gX10_parent_X10_isNowhere rfl rfl rfl (by decide +kernel) ⟨Nat.le_of_ble_eq_true rfl, Nat.le_of_ble_eq_true rfl⟩) rfl hl.1 rfl (Nat.le_of_ble_eq_true rfl) dX10_parent_3 ⟨Nat.le_of_ble_eq_true rfl, Nat.le_of_ble_eq_true rfl⟩ (fun rv_1 _ H locs hp hG => ?_)
  subst rv_1
  refine lv_if_eq (tgt := 11) S.1 S.2.1 dX10_parent_6 (by decide) (fun c => absurd c (by decide)) (fun _ => ?_)
  refine lv_iconst (v := 0) S.1 S.2.1 dX10_parent_9 (by decide) ?_
  exact fx_iret S hr hlocks () hG (rfl) dX10_parent_10
theorem k714_X7_parent {n : Nat} (hst : l.stackTraces = false) (hn : N0 + 231 ≤ n) (h0 : F N0 = some (.inr (9, [.ref (N0 + 1), .ref (N0 + 2), .ref (N0 + 11), .ref (N0 + 13), .ref (N0 + 63), .ref (N0 + 65), .ref (N0 + 85), .int (-1), .int (-1), .int 32]))) (h1 : F (N0 + 1) = some (.inl (cTr, 3, .inr (.inr (.inr (.inr (va_up (va_up (va_up (fun _ => none) 0 (some (N0 + 143))) 1 (some (N0 + 150))) 2 (some (N0 + 157))))))))) (h2 : F (N0 + 157) = some (.inr (7, [.ref (N0 + 158), .ref (N0 + 159), .ref (N0 + 160), .ref (N0 + 161), .ref (N0 + 162), .ref (N0 + 163), .int 1]))) : vx_Met l yX7_parent wsX7_parent ({ frames := 6, cells := 1, slots := 6, locals := 82 }) (va_Pc [.ref N0, .int 2, .int 0] (fP N0 D vwCl (fty cI cC cL cD cII cTr cTm cIt cB) (fen ql) F n)) (fNo N0 D vwCl (fty cI cC cL cD cII cTr cTm cIt cB) F n) (fXC N0 D vwCl (fty cI cC cL cD cII cTr cTm cIt cB) "java/util/NoSuchElementException" F n) 1 6 (fA N0) := by
  refine fx_startX 4 rfl rfl (Nat.le_of_ble_eq_true rfl) ?_ rfl
  intro p e s m below meth c ls S htab hlocks hG hl
  have hl : lv_has ls 4 [(0, .ref N0), (1, .int 2), (2, .int 0)] := hl
  have lt_h0 := hG.1.lt h0
  have lt_h1 := hG.1.lt h1
  have lt_h2 := hG.1.lt h2
  refine lv_aload_n S.1 S.2.1 dX7_parent_0 rfl (lv_at hl 0 rfl) ?_
  refine lv_iload_n S.1 S.2.1 dX7_parent_1 rfl (lv_at hl 1 rfl) ?_
  refine lv_iload_n S.1 S.2.1 dX7_parent_2 rfl (lv_at hl 2 rfl) ?_
  refine fx_cVr (As := [.int 2, .int 0]) (rest := []) S hG (k189_X7_treeWith (by omega) h0 h1 h2) h0 rfl (cwV 2 S.2.2.2.2 gX7_parent_X7_treeWith rfl rfl rfl (by decide +kernel) ⟨Nat.le_of_ble_eq_true rfl, Nat.le_of_ble_eq_true rfl⟩) rfl hl.1 rfl (Nat.le_of_ble_eq_true rfl) dX7_parent_3 ⟨Nat.le_of_ble_eq_true rfl, Nat.le_of_ble_eq_true rfl⟩ (fun rv_1 _ H locs hp hG => ?_)
  subst rv_1
  refine lv_astore_n (lv' := [(3, .ref (N0 + 157)), (0, .ref N0), (1, .int 2), (2, .int 0)]) S.1 S.2.1 dX7_parent_6 rfl hl (by decide) rfl (fun ls hl => ?_)
  refine lv_iload_n S.1 S.2.1 dX7_parent_7 rfl (lv_at hl 3 rfl) ?_
  refine lv_if_ne (tgt := 21) S.1 S.2.1 dX7_parent_8 (by decide) (fun c => absurd (by decide) c) (fun _ => ?_)
  exact fx_throwX (text := "the root has no parent") S hG hl.1 hst (by decide) (by decide +kernel) (by decide +kernel) (List.mem_of_getElem? (i := 11) rfl) (by decide +kernel) (by decide +kernel) (by decide +kernel) (List.mem_of_getElem? (i := 3) rfl) (List.mem_of_getElem? (i := 0) rfl) (List.mem_of_getElem? (i := 1) rfl) (List.mem_of_getElem? (i := 2) rfl) dX7_parent_11 dX7_parent_14 dX7_parent_15 dX7_parent_17 dX7_parent_20 htab (by decide) (Nat.le_of_ble_eq_true rfl) (by decide) (by decide) hlocks (by decide) (by decide)
theorem k715_L_parent {n : Nat} (hst : l.stackTraces = false) (hn : N0 + 231 ≤ n) (h0 : F N0 = some (.inr (9, [.ref (N0 + 1), .ref (N0 + 2), .ref (N0 + 11), .ref (N0 + 13), .ref (N0 + 63), .ref (N0 + 65), .ref (N0 + 85), .int (-1), .int (-1), .int 32]))) (h1 : F (N0 + 1) = some (.inl (cTr, 3, .inr (.inr (.inr (.inr (va_up (va_up (va_up (fun _ => none) 0 (some (N0 + 143))) 1 (some (N0 + 150))) 2 (some (N0 + 157))))))))) (h2 : F (N0 + 157) = some (.inr (7, [.ref (N0 + 158), .ref (N0 + 159), .ref (N0 + 160), .ref (N0 + 161), .ref (N0 + 162), .ref (N0 + 163), .int 1]))) : Met l yL_parent wsL_parent ({ frames := 7, cells := 1, slots := 6, locals := 105 }) (va_Pc [.ref N0, .int 2, .int 0, .ref (N0 + 229)] (fP N0 D vwCl (fty cI cC cL cD cII cTr cTm cIt cB) (fen ql) F n)) (fQi N0 D vwCl (fty cI cC cL cD cII cTr cTm cIt cB) (fun (r : Int32) (u : Nat) => r = 2 ∧ n ≤ u) (fun _ => F) (fun u => u)) 1 6 (fA N0) := by
  refine fx_startW (hh := [(0, 10, 13, 19), (0, 10, 17, 27)]) 5 rfl rfl (Nat.le_of_ble_eq_true rfl) ?_ rfl
  intro p e s m below meth c ls S htab hr hlocks hG hl
  have hl : lv_has ls 5 [(0, .ref N0), (1, .int 2), (2, .int 0), (3, .ref (N0 + 229))] := hl
  have lt_h0 := hG.1.lt h0
  have lt_h1 := hG.1.lt h1
  have lt_h2 := hG.1.lt h2
  refine lv_aload_n S.1 S.2.1 dL_parent_0 rfl (lv_at hl 3 rfl) ?_
  refine lv_iconst (v := 0) S.1 S.2.1 dL_parent_1 (by decide) ?_
  refine lv_aload_n S.1 S.2.1 dL_parent_2 rfl (lv_at hl 0 rfl) ?_
  refine lv_iload_n S.1 S.2.1 dL_parent_3 rfl (lv_at hl 1 rfl) ?_
  refine lv_iload_n S.1 S.2.1 dL_parent_4 rfl (lv_at hl 2 rfl) ?_
  refine fx_xV (As := [.int 2, .int 0]) (rest := [.int 0, .ref (N0 + 229)]) S hG (k714_X7_parent hst (by omega) h0 h1 h2) h0 rfl (cwV 2 S.2.2.2.2 gL_parent_X7_parent rfl rfl rfl (by decide +kernel) ⟨Nat.le_of_ble_eq_true rfl, Nat.le_of_ble_eq_true rfl⟩) rfl hl.1 rfl (Nat.le_of_ble_eq_true rfl) dL_parent_5 ⟨Nat.le_of_ble_eq_true rfl, Nat.le_of_ble_eq_true rfl⟩ (fun ceq_1 q_1 H locs n_2 hn_2 hG h1q_1 h2q_1 h3q_1 => ?_)
  refine fx_catch (hh := [(0, 10, 13, 19), (0, 10, 17, 27)]) S htab hG h1q_1 h2q_1 h3q_1 [⟨0, 10, 13, 19⟩] ⟨0, 10, 17, 27⟩ [] rfl [] (fun z hz => by
    simp only [List.mem_cons, List.not_mem_nil, or_false] at hz
    rcases hz with rfl
    · exact ⟨by decide, "java/lang/IndexOutOfBoundsException", by decide +kernel, List.mem_of_getElem? (i := 14) rfl⟩) (by decide) (by decide) (by decide +kernel) (List.mem_of_getElem? (i := 3) rfl) ?_
  refine lv_astore (lv' := [(4, .ref q_1), (0, .ref N0), (1, .int 2), (2, .int 0), (3, .ref (N0 + 229))]) S.1 S.2.1 dL_parent_17 hl (by decide) rfl (fun ls hl => ?_)
  refine lv_iconst (v := 2) S.1 S.2.1 dL_parent_19 (by decide) ?_
  exact fx_iret S hr hlocks n_2 hG (⟨rfl, hn_2⟩) dL_parent_20
theorem k716_X10_parent {n : Nat} (hn : N0 + 231 ≤ n) (h0 : F (N0 + 164) = some (.inr (12, [.ref (N0 + 165), .int 0, .ref (N0 + 181), .int 0, .int 0, .int 0, .int (-1), .ref (ql 24), .ref (N0 + 182), .ref (N0 + 187), .ref (N0 + 208), .ref (N0 + 209), .ref (N0 + 210), .ref (N0 + 211), .ref (N0 + 212), .int 0, .ref (N0 + 213), .ref (N0 + 218), .ref (N0 + 223), .ref (N0 + 224), .ref (N0 + 225), .ref (N0 + 226), .ref (N0 + 227), .int 0, .int 0, .ref (N0 + 228), .null, .int (-1), .int 0, .int 0, .int 0]))) (h1 : F (N0 + 165) = some (.inl (cTm, 3, .inr (.inr (.inr (.inr (va_up (va_up (va_up (fun _ => none) 0 (some (N0 + 166))) 1 (some (N0 + 171))) 2 (some (N0 + 176))))))))) (h2 : F (N0 + 176) = some (.inr (11, [.ref (N0 + 177), .ref (N0 + 178), .ref (N0 + 179), .ref (N0 + 180), .int 1]))) : Met l yX10_parent wsX10_parent ({ frames := 4, cells := 0, slots := 0, locals := 86 }) (va_Pc [.ref (N0 + 164), .int 2, .int 0] (fP N0 D vwCl (fty cI cC cL cD cII cTr cTm cIt cB) (fen ql) F n)) (fQi N0 D vwCl (fty cI cC cL cD cII cTr cTm cIt cB) (fun (r : Int32) (_ : Unit) => r = 0) (fun _ => (fu F (N0 + 164) (.inr (12, [.ref (N0 + 165), .int 2, .ref (N0 + 181), .int 0, .int 0, .int 0, .int (-1), .ref (ql 24), .ref (N0 + 182), .ref (N0 + 187), .ref (N0 + 208), .ref (N0 + 209), .ref (N0 + 210), .ref (N0 + 211), .ref (N0 + 212), .int 0, .ref (N0 + 213), .ref (N0 + 218), .ref (N0 + 223), .ref (N0 + 224), .ref (N0 + 225), .ref (N0 + 226), .ref (N0 + 227), .int 0, .int 0, .ref (N0 + 228), .null, .int (-1), .int 0, .int 0, .int 0])))) (fun _ => n)) 0 0 (fA N0) := by
  refine fx_start 3 rfl rfl (Nat.le_of_ble_eq_true rfl) ?_ rfl
  intro p e s m below meth c ls S hr hlocks hin hG hl
  have hl : lv_has ls 3 [(0, .ref (N0 + 164)), (1, .int 2), (2, .int 0)] := hl
  have lt_h0 := hG.1.lt h0
  have lt_h1 := hG.1.lt h1
  have lt_h2 := hG.1.lt h2
  refine lv_aload_n S.1 S.2.1 dX10_parent_0 rfl (lv_at hl 0 rfl) ?_
  refine lv_iload_n S.1 S.2.1 dX10_parent_1 rfl (lv_at hl 1 rfl) ?_
  refine lv_iload_n S.1 S.2.1 dX10_parent_2 rfl (lv_at hl 2 rfl) ?_
  refine fx_cVi (As := [.int 2, .int 0]) (rest := []) S hG (k193_X10_isNowhere (by omega) h0 h1 h2) h0 rfl (cwV 2 S.2.2.2.2 gX10_parent_X10_isNowhere rfl rfl rfl (by decide +kernel) ⟨Nat.le_of_ble_eq_true rfl, Nat.le_of_ble_eq_true rfl⟩) rfl hl.1 rfl (Nat.le_of_ble_eq_true rfl) dX10_parent_3 ⟨Nat.le_of_ble_eq_true rfl, Nat.le_of_ble_eq_true rfl⟩ (fun rv_1 _ H locs hp hG => ?_)
  subst rv_1
  refine lv_if_eq (tgt := 11) S.1 S.2.1 dX10_parent_6 (by decide) (fun _ => ?_) (fun c => absurd (by decide) c)
  refine lv_iload_n S.1 S.2.1 dX10_parent_11 rfl (lv_at hl 2 rfl) ?_
  refine lv_if_ne (tgt := 23) S.1 S.2.1 dX10_parent_12 (by decide) (fun c => absurd (by decide) c) (fun _ => ?_)
  refine lv_aload_n S.1 S.2.1 dX10_parent_15 rfl (lv_at hl 0 rfl) ?_
  refine lv_iconst (v := 2) S.1 S.2.1 dX10_parent_16 (by decide) ?_
  refine fx_cVi (As := [.int 2]) (rest := []) S hG (k99_X10_fails (by omega) fu_s) fu_s rfl (cwV 1 S.2.2.2.2 gX10_parent_X10_fails rfl rfl rfl (by decide +kernel) ⟨Nat.le_of_ble_eq_true rfl, Nat.le_of_ble_eq_true rfl⟩) rfl hl.1 rfl (Nat.le_of_ble_eq_true rfl) dX10_parent_17 ⟨Nat.le_of_ble_eq_true rfl, Nat.le_of_ble_eq_true rfl⟩ (fun rv_2 _ H locs hp hG => ?_)
  subst rv_2
  refine lv_goto (tgt := 34) S.1 S.2.1 dX10_parent_20 (by decide) ?_
  have hG : fG N0 D vwCl (fty cI cC cL cD cII cTr cTm cIt cB) (fen ql) s (fu F (N0 + 164) (.inr (12, [.ref (N0 + 165), .int 2, .ref (N0 + 181), .int 0, .int 0, .int 0, .int (-1), .ref (ql 24), .ref (N0 + 182), .ref (N0 + 187), .ref (N0 + 208), .ref (N0 + 209), .ref (N0 + 210), .ref (N0 + 211), .ref (N0 + 212), .int 0, .ref (N0 + 213), .ref (N0 + 218), .ref (N0 + 223), .ref (N0 + 224), .ref (N0 + 225), .ref (N0 + 226), .ref (N0 + 227), .int 0, .int 0, .ref (N0 + 228), .null, .int (-1), .int 0, .int 0, .int 0]))) n H locs := hG.weak (fun a e h => by
    rcases fu_cases h with ⟨rfl, he⟩ | ⟨hne0, h⟩
    · cases he; exact fu_s
    · exact (fu_at (by omega) (fu_at (by omega) h)))
  exact fx_iret S hr hlocks () hG (rfl) dX10_parent_34
theorem k717_X7_parent {n : Nat} {a2 : Int32} (g_a2_ge_1 : 1 ≤ a2) (hst : l.stackTraces = false) (hn : N0 + 231 ≤ n) (h0 : F N0 = some (.inr (9, [.ref (N0 + 1), .ref (N0 + 2), .ref (N0 + 11), .ref (N0 + 13), .ref (N0 + 63), .ref (N0 + 65), .ref (N0 + 85), .int (-1), .int (-1), .int 32]))) (h1 : F (N0 + 1) = some (.inl (cTr, 3, .inr (.inr (.inr (.inr (va_up (va_up (va_up (fun _ => none) 0 (some (N0 + 143))) 1 (some (N0 + 150))) 2 (some (N0 + 157))))))))) (h2 : F (N0 + 157) = some (.inr (7, [.ref (N0 + 158), .ref (N0 + 159), .ref (N0 + 160), .ref (N0 + 161), .ref (N0 + 162), .ref (N0 + 163), .int 1]))) : vx_Met l yX7_parent wsX7_parent ({ frames := 7, cells := 1, slots := 6, locals := 105 }) (va_Pc [.ref N0, .int 2, .int a2] (fP N0 D vwCl (fty cI cC cL cD cII cTr cTm cIt cB) (fen ql) F n)) (fNo N0 D vwCl (fty cI cC cL cD cII cTr cTm cIt cB) F n) (fXC N0 D vwCl (fty cI cC cL cD cII cTr cTm cIt cB) "java/lang/IndexOutOfBoundsException" F n) 1 6 (fA N0) := by
  refine fx_startX 4 rfl rfl (Nat.le_of_ble_eq_true rfl) ?_ rfl
  intro p e s m below meth c ls S htab hlocks hG hl
  have hl : lv_has ls 4 [(0, .ref N0), (1, .int 2), (2, .int a2)] := hl
  have lt_h0 := hG.1.lt h0
  have lt_h1 := hG.1.lt h1
  have lt_h2 := hG.1.lt h2
  refine lv_aload_n S.1 S.2.1 dX7_parent_0 rfl (lv_at hl 0 rfl) ?_
  refine lv_iload_n S.1 S.2.1 dX7_parent_1 rfl (lv_at hl 1 rfl) ?_
  refine lv_iload_n S.1 S.2.1 dX7_parent_2 rfl (lv_at hl 2 rfl) ?_
  refine fx_xV (As := [.int 2, .int a2]) (rest := []) S hG (k219_X7_treeWith g_a2_ge_1 hst (by omega) h0 h1 h2) h0 rfl (cwV 2 S.2.2.2.2 gX7_parent_X7_treeWith rfl rfl rfl (by decide +kernel) ⟨Nat.le_of_ble_eq_true rfl, Nat.le_of_ble_eq_true rfl⟩) rfl hl.1 rfl (Nat.le_of_ble_eq_true rfl) dX7_parent_3 ⟨Nat.le_of_ble_eq_true rfl, Nat.le_of_ble_eq_true rfl⟩ (fun ceq_1 q_1 H locs n_2 hn_2 hG h1q_1 h2q_1 h3q_1 => ?_)
  exact fx_out htab hlocks hG (by omega) h1q_1 h2q_1 h3q_1 (by decide) (by decide)
theorem k718_L_parent {n : Nat} {a2 : Int32} (g_a2_ge_1 : 1 ≤ a2) (hst : l.stackTraces = false) (hn : N0 + 231 ≤ n) (h0 : F N0 = some (.inr (9, [.ref (N0 + 1), .ref (N0 + 2), .ref (N0 + 11), .ref (N0 + 13), .ref (N0 + 63), .ref (N0 + 65), .ref (N0 + 85), .int (-1), .int (-1), .int 32]))) (h1 : F (N0 + 1) = some (.inl (cTr, 3, .inr (.inr (.inr (.inr (va_up (va_up (va_up (fun _ => none) 0 (some (N0 + 143))) 1 (some (N0 + 150))) 2 (some (N0 + 157))))))))) (h2 : F (N0 + 157) = some (.inr (7, [.ref (N0 + 158), .ref (N0 + 159), .ref (N0 + 160), .ref (N0 + 161), .ref (N0 + 162), .ref (N0 + 163), .int 1]))) : Met l yL_parent wsL_parent ({ frames := 8, cells := 1, slots := 6, locals := 128 }) (va_Pc [.ref N0, .int 2, .int a2, .ref (N0 + 229)] (fP N0 D vwCl (fty cI cC cL cD cII cTr cTm cIt cB) (fen ql) F n)) (fQi N0 D vwCl (fty cI cC cL cD cII cTr cTm cIt cB) (fun (r : Int32) (u : Nat) => r = 1 ∧ n ≤ u) (fun _ => F) (fun u => u)) 1 6 (fA N0) := by
  refine fx_startW (hh := [(0, 10, 13, 19), (0, 10, 17, 27)]) 5 rfl rfl (Nat.le_of_ble_eq_true rfl) ?_ rfl
  intro p e s m below meth c ls S htab hr hlocks hG hl
  have hl : lv_has ls 5 [(0, .ref N0), (1, .int 2), (2, .int a2), (3, .ref (N0 + 229))] := hl
  have lt_h0 := hG.1.lt h0
  have lt_h1 := hG.1.lt h1
  have lt_h2 := hG.1.lt h2
  refine lv_aload_n S.1 S.2.1 dL_parent_0 rfl (lv_at hl 3 rfl) ?_
  refine lv_iconst (v := 0) S.1 S.2.1 dL_parent_1 (by decide) ?_
  refine lv_aload_n S.1 S.2.1 dL_parent_2 rfl (lv_at hl 0 rfl) ?_
  refine lv_iload_n S.1 S.2.1 dL_parent_3 rfl (lv_at hl 1 rfl) ?_
  refine lv_iload_n S.1 S.2.1 dL_parent_4 rfl (lv_at hl 2 rfl) ?_
  refine fx_xV (As := [.int 2, .int a2]) (rest := [.int 0, .ref (N0 + 229)]) S hG (k717_X7_parent g_a2_ge_1 hst (by omega) h0 h1 h2) h0 rfl (cwV 2 S.2.2.2.2 gL_parent_X7_parent rfl rfl rfl (by decide +kernel) ⟨Nat.le_of_ble_eq_true rfl, Nat.le_of_ble_eq_true rfl⟩) rfl hl.1 rfl (Nat.le_of_ble_eq_true rfl) dL_parent_5 ⟨Nat.le_of_ble_eq_true rfl, Nat.le_of_ble_eq_true rfl⟩ (fun ceq_1 q_1 H locs n_2 hn_2 hG h1q_1 h2q_1 h3q_1 => ?_)
  refine fx_catch (hh := [(0, 10, 13, 19), (0, 10, 17, 27)]) S htab hG h1q_1 h2q_1 h3q_1 [] ⟨0, 10, 13, 19⟩ [⟨0, 10, 17, 27⟩] rfl [] (fun z hz => absurd hz List.not_mem_nil) (by decide) (by decide) (by decide +kernel) (List.mem_of_getElem? (i := 2) rfl) ?_
  refine lv_astore (lv' := [(4, .ref q_1), (0, .ref N0), (1, .int 2), (2, .int a2), (3, .ref (N0 + 229))]) S.1 S.2.1 dL_parent_13 hl (by decide) rfl (fun ls hl => ?_)
  refine lv_iconst (v := 1) S.1 S.2.1 dL_parent_15 (by decide) ?_
  exact fx_iret S hr hlocks n_2 hG (⟨rfl, hn_2⟩) dL_parent_16
theorem k719_X10_parent {n : Nat} {a2 : Int32} (g_a2_ge_1 : 1 ≤ a2) (hn : N0 + 231 ≤ n) (h0 : F (N0 + 164) = some (.inr (12, [.ref (N0 + 165), .int 0, .ref (N0 + 181), .int 0, .int 0, .int 0, .int (-1), .ref (ql 24), .ref (N0 + 182), .ref (N0 + 187), .ref (N0 + 208), .ref (N0 + 209), .ref (N0 + 210), .ref (N0 + 211), .ref (N0 + 212), .int 0, .ref (N0 + 213), .ref (N0 + 218), .ref (N0 + 223), .ref (N0 + 224), .ref (N0 + 225), .ref (N0 + 226), .ref (N0 + 227), .int 0, .int 0, .ref (N0 + 228), .null, .int (-1), .int 0, .int 0, .int 0]))) (h1 : F (N0 + 165) = some (.inl (cTm, 3, .inr (.inr (.inr (.inr (va_up (va_up (va_up (fun _ => none) 0 (some (N0 + 166))) 1 (some (N0 + 171))) 2 (some (N0 + 176))))))))) (h2 : F (N0 + 176) = some (.inr (11, [.ref (N0 + 177), .ref (N0 + 178), .ref (N0 + 179), .ref (N0 + 180), .int 1]))) : Met l yX10_parent wsX10_parent ({ frames := 4, cells := 0, slots := 0, locals := 86 }) (va_Pc [.ref (N0 + 164), .int 2, .int a2] (fP N0 D vwCl (fty cI cC cL cD cII cTr cTm cIt cB) (fen ql) F n)) (fQi N0 D vwCl (fty cI cC cL cD cII cTr cTm cIt cB) (fun (r : Int32) (_ : Unit) => r = 0) (fun _ => (fu F (N0 + 164) (.inr (12, [.ref (N0 + 165), .int 1, .ref (N0 + 181), .int 0, .int 0, .int 0, .int (-1), .ref (ql 24), .ref (N0 + 182), .ref (N0 + 187), .ref (N0 + 208), .ref (N0 + 209), .ref (N0 + 210), .ref (N0 + 211), .ref (N0 + 212), .int 0, .ref (N0 + 213), .ref (N0 + 218), .ref (N0 + 223), .ref (N0 + 224), .ref (N0 + 225), .ref (N0 + 226), .ref (N0 + 227), .int 0, .int 0, .ref (N0 + 228), .null, .int (-1), .int 0, .int 0, .int 0])))) (fun _ => n)) 0 0 (fA N0) := by
  refine fx_start 3 rfl rfl (Nat.le_of_ble_eq_true rfl) ?_ rfl
  intro p e s m below meth c ls S hr hlocks hin hG hl
  have hl : lv_has ls 3 [(0, .ref (N0 + 164)), (1, .int 2), (2, .int a2)] := hl
  have lt_h0 := hG.1.lt h0
  have lt_h1 := hG.1.lt h1
  have lt_h2 := hG.1.lt h2
  refine lv_aload_n S.1 S.2.1 dX10_parent_0 rfl (lv_at hl 0 rfl) ?_
  refine lv_iload_n S.1 S.2.1 dX10_parent_1 rfl (lv_at hl 1 rfl) ?_
  refine lv_iload_n S.1 S.2.1 dX10_parent_2 rfl (lv_at hl 2 rfl) ?_
  refine fx_cVi (As := [.int 2, .int a2]) (rest := []) S hG (k223_X10_isNowhere g_a2_ge_1 (by omega) h0 h1 h2) h0 rfl (cwV 2 S.2.2.2.2 gX10_parent_X10_isNowhere rfl rfl rfl (by decide +kernel) ⟨Nat.le_of_ble_eq_true rfl, Nat.le_of_ble_eq_true rfl⟩) rfl hl.1 rfl (Nat.le_of_ble_eq_true rfl) dX10_parent_3 ⟨Nat.le_of_ble_eq_true rfl, Nat.le_of_ble_eq_true rfl⟩ (fun rv_1 _ H locs hp hG => ?_)
  subst rv_1
  refine lv_if_eq (tgt := 11) S.1 S.2.1 dX10_parent_6 (by decide) (fun c => absurd c (by decide)) (fun _ => ?_)
  refine lv_iconst (v := 0) S.1 S.2.1 dX10_parent_9 (by decide) ?_
  exact fx_iret S hr hlocks () hG (rfl) dX10_parent_10
theorem k720_X7_parent {n : Nat} {a1 : Int32} {a2 : Int32} (g_a1_ge_3 : 3 ≤ a1) (hst : l.stackTraces = false) (hn : N0 + 231 ≤ n) (h0 : F N0 = some (.inr (9, [.ref (N0 + 1), .ref (N0 + 2), .ref (N0 + 11), .ref (N0 + 13), .ref (N0 + 63), .ref (N0 + 65), .ref (N0 + 85), .int (-1), .int (-1), .int 32]))) : vx_Met l yX7_parent wsX7_parent ({ frames := 8, cells := 1, slots := 6, locals := 126 }) (va_Pc [.ref N0, .int a1, .int a2] (fP N0 D vwCl (fty cI cC cL cD cII cTr cTm cIt cB) (fen ql) F n)) (fNo N0 D vwCl (fty cI cC cL cD cII cTr cTm cIt cB) F n) (fXC N0 D vwCl (fty cI cC cL cD cII cTr cTm cIt cB) "java/lang/IndexOutOfBoundsException" F n) 1 6 (fA N0) := by
  refine fx_startX 4 rfl rfl (Nat.le_of_ble_eq_true rfl) ?_ rfl
  intro p e s m below meth c ls S htab hlocks hG hl
  have hl : lv_has ls 4 [(0, .ref N0), (1, .int a1), (2, .int a2)] := hl
  have lt_h0 := hG.1.lt h0
  refine lv_aload_n S.1 S.2.1 dX7_parent_0 rfl (lv_at hl 0 rfl) ?_
  refine lv_iload_n S.1 S.2.1 dX7_parent_1 rfl (lv_at hl 1 rfl) ?_
  refine lv_iload_n S.1 S.2.1 dX7_parent_2 rfl (lv_at hl 2 rfl) ?_
  refine fx_xV (As := [.int a1, .int a2]) (rest := []) S hG (k225_X7_treeWith g_a1_ge_3 hst (by omega) h0) h0 rfl (cwV 2 S.2.2.2.2 gX7_parent_X7_treeWith rfl rfl rfl (by decide +kernel) ⟨Nat.le_of_ble_eq_true rfl, Nat.le_of_ble_eq_true rfl⟩) rfl hl.1 rfl (Nat.le_of_ble_eq_true rfl) dX7_parent_3 ⟨Nat.le_of_ble_eq_true rfl, Nat.le_of_ble_eq_true rfl⟩ (fun ceq_1 q_1 H locs n_2 hn_2 hG h1q_1 h2q_1 h3q_1 => ?_)
  exact fx_out htab hlocks hG (by omega) h1q_1 h2q_1 h3q_1 (by decide) (by decide)
theorem k721_L_parent {n : Nat} {a1 : Int32} {a2 : Int32} (g_a1_ge_3 : 3 ≤ a1) (hst : l.stackTraces = false) (hn : N0 + 231 ≤ n) (h0 : F N0 = some (.inr (9, [.ref (N0 + 1), .ref (N0 + 2), .ref (N0 + 11), .ref (N0 + 13), .ref (N0 + 63), .ref (N0 + 65), .ref (N0 + 85), .int (-1), .int (-1), .int 32]))) : Met l yL_parent wsL_parent ({ frames := 9, cells := 1, slots := 6, locals := 149 }) (va_Pc [.ref N0, .int a1, .int a2, .ref (N0 + 229)] (fP N0 D vwCl (fty cI cC cL cD cII cTr cTm cIt cB) (fen ql) F n)) (fQi N0 D vwCl (fty cI cC cL cD cII cTr cTm cIt cB) (fun (r : Int32) (u : Nat) => r = 1 ∧ n ≤ u) (fun _ => F) (fun u => u)) 1 6 (fA N0) := by
  refine fx_startW (hh := [(0, 10, 13, 19), (0, 10, 17, 27)]) 5 rfl rfl (Nat.le_of_ble_eq_true rfl) ?_ rfl
  intro p e s m below meth c ls S htab hr hlocks hG hl
  have hl : lv_has ls 5 [(0, .ref N0), (1, .int a1), (2, .int a2), (3, .ref (N0 + 229))] := hl
  have lt_h0 := hG.1.lt h0
  refine lv_aload_n S.1 S.2.1 dL_parent_0 rfl (lv_at hl 3 rfl) ?_
  refine lv_iconst (v := 0) S.1 S.2.1 dL_parent_1 (by decide) ?_
  refine lv_aload_n S.1 S.2.1 dL_parent_2 rfl (lv_at hl 0 rfl) ?_
  refine lv_iload_n S.1 S.2.1 dL_parent_3 rfl (lv_at hl 1 rfl) ?_
  refine lv_iload_n S.1 S.2.1 dL_parent_4 rfl (lv_at hl 2 rfl) ?_
  refine fx_xV (As := [.int a1, .int a2]) (rest := [.int 0, .ref (N0 + 229)]) S hG (k720_X7_parent g_a1_ge_3 hst (by omega) h0) h0 rfl (cwV 2 S.2.2.2.2 gL_parent_X7_parent rfl rfl rfl (by decide +kernel) ⟨Nat.le_of_ble_eq_true rfl, Nat.le_of_ble_eq_true rfl⟩) rfl hl.1 rfl (Nat.le_of_ble_eq_true rfl) dL_parent_5 ⟨Nat.le_of_ble_eq_true rfl, Nat.le_of_ble_eq_true rfl⟩ (fun ceq_1 q_1 H locs n_2 hn_2 hG h1q_1 h2q_1 h3q_1 => ?_)
  refine fx_catch (hh := [(0, 10, 13, 19), (0, 10, 17, 27)]) S htab hG h1q_1 h2q_1 h3q_1 [] ⟨0, 10, 13, 19⟩ [⟨0, 10, 17, 27⟩] rfl [] (fun z hz => absurd hz List.not_mem_nil) (by decide) (by decide) (by decide +kernel) (List.mem_of_getElem? (i := 2) rfl) ?_
  refine lv_astore (lv' := [(4, .ref q_1), (0, .ref N0), (1, .int a1), (2, .int a2), (3, .ref (N0 + 229))]) S.1 S.2.1 dL_parent_13 hl (by decide) rfl (fun ls hl => ?_)
  refine lv_iconst (v := 1) S.1 S.2.1 dL_parent_15 (by decide) ?_
  exact fx_iret S hr hlocks n_2 hG (⟨rfl, hn_2⟩) dL_parent_16
theorem k722_X10_parent {n : Nat} {a1 : Int32} {a2 : Int32} (g_a1_ge_3 : 3 ≤ a1) (hn : N0 + 231 ≤ n) (h0 : F (N0 + 164) = some (.inr (12, [.ref (N0 + 165), .int 0, .ref (N0 + 181), .int 0, .int 0, .int 0, .int (-1), .ref (ql 24), .ref (N0 + 182), .ref (N0 + 187), .ref (N0 + 208), .ref (N0 + 209), .ref (N0 + 210), .ref (N0 + 211), .ref (N0 + 212), .int 0, .ref (N0 + 213), .ref (N0 + 218), .ref (N0 + 223), .ref (N0 + 224), .ref (N0 + 225), .ref (N0 + 226), .ref (N0 + 227), .int 0, .int 0, .ref (N0 + 228), .null, .int (-1), .int 0, .int 0, .int 0]))) : Met l yX10_parent wsX10_parent ({ frames := 4, cells := 0, slots := 0, locals := 86 }) (va_Pc [.ref (N0 + 164), .int a1, .int a2] (fP N0 D vwCl (fty cI cC cL cD cII cTr cTm cIt cB) (fen ql) F n)) (fQi N0 D vwCl (fty cI cC cL cD cII cTr cTm cIt cB) (fun (r : Int32) (_ : Unit) => r = 0) (fun _ => (fu F (N0 + 164) (.inr (12, [.ref (N0 + 165), .int 1, .ref (N0 + 181), .int 0, .int 0, .int 0, .int (-1), .ref (ql 24), .ref (N0 + 182), .ref (N0 + 187), .ref (N0 + 208), .ref (N0 + 209), .ref (N0 + 210), .ref (N0 + 211), .ref (N0 + 212), .int 0, .ref (N0 + 213), .ref (N0 + 218), .ref (N0 + 223), .ref (N0 + 224), .ref (N0 + 225), .ref (N0 + 226), .ref (N0 + 227), .int 0, .int 0, .ref (N0 + 228), .null, .int (-1), .int 0, .int 0, .int 0])))) (fun _ => n)) 0 0 (fA N0) := by
  refine fx_start 3 rfl rfl (Nat.le_of_ble_eq_true rfl) ?_ rfl
  intro p e s m below meth c ls S hr hlocks hin hG hl
  have hl : lv_has ls 3 [(0, .ref (N0 + 164)), (1, .int a1), (2, .int a2)] := hl
  have lt_h0 := hG.1.lt h0
  refine lv_aload_n S.1 S.2.1 dX10_parent_0 rfl (lv_at hl 0 rfl) ?_
  refine lv_iload_n S.1 S.2.1 dX10_parent_1 rfl (lv_at hl 1 rfl) ?_
  refine lv_iload_n S.1 S.2.1 dX10_parent_2 rfl (lv_at hl 2 rfl) ?_
  refine fx_cVi (As := [.int a1, .int a2]) (rest := []) S hG (k229_X10_isNowhere g_a1_ge_3 (by omega) h0) h0 rfl (cwV 2 S.2.2.2.2 gX10_parent_X10_isNowhere rfl rfl rfl (by decide +kernel) ⟨Nat.le_of_ble_eq_true rfl, Nat.le_of_ble_eq_true rfl⟩) rfl hl.1 rfl (Nat.le_of_ble_eq_true rfl) dX10_parent_3 ⟨Nat.le_of_ble_eq_true rfl, Nat.le_of_ble_eq_true rfl⟩ (fun rv_1 _ H locs hp hG => ?_)
  subst rv_1
  refine lv_if_eq (tgt := 11) S.1 S.2.1 dX10_parent_6 (by decide) (fun c => absurd c (by decide)) (fun _ => ?_)
  refine lv_iconst (v := 0) S.1 S.2.1 dX10_parent_9 (by decide) ?_
  exact fx_iret S hr hlocks () hG (rfl) dX10_parent_10
theorem l17_0 {p : Program} {e : Env} {s : State} {m : MethodId} {below : List Frame} {meth : Method} {c : Code} {b : Nat} {xs : Nat → Int32} {H : Heap} {locs : List Loc} {ls : Array Slot} {n : Nat} {a1 a2 a3 a4 : Int32} (g_a1_le_m1 : a1 ≤ (-1)) (S : CallFix p m c cL_law 9 s #[.ref b] wsL_law "TreeDifferLaw") (hr : meth.sig.returnType = ret) (hlocks : meth.locks = false) (hst : l.stackTraces = false) (hX : va_X b 5 xs s s.heap) (hbl : b < s.heap.size ∧ b < N0) (hN : s.heap.size = N0) (hn : N0 + 231 ≤ n) (hx1 : xs 1 = a1) (hx2 : xs 2 = a2) (hx3 : xs 3 = a3) (hx4 : xs 4 = a4) (h0 : F N0 = some (.inr (9, [.ref (N0 + 1), .ref (N0 + 2), .ref (N0 + 11), .ref (N0 + 13), .ref (N0 + 63), .ref (N0 + 65), .ref (N0 + 85), .int (-1), .int (-1), .int 32]))) (h1 : F (N0 + 164) = some (.inr (12, [.ref (N0 + 165), .int 0, .ref (N0 + 181), .int 0, .int 0, .int 0, .int (-1), .ref (ql 24), .ref (N0 + 182), .ref (N0 + 187), .ref (N0 + 208), .ref (N0 + 209), .ref (N0 + 210), .ref (N0 + 211), .ref (N0 + 212), .int 0, .ref (N0 + 213), .ref (N0 + 218), .ref (N0 + 223), .ref (N0 + 224), .ref (N0 + 225), .ref (N0 + 226), .ref (N0 + 227), .int 0, .int 0, .ref (N0 + 228), .null, .int (-1), .int 0, .int 0, .int 0]))) (hG : fG N0 D vwCl (fty cI cC cL cD cII cTr cTm cIt cB) (fen ql) s F n H locs) (hl : lv_has ls 9 [(0, .ref b), (1, .ref N0), (2, .ref (N0 + 164)), (3, .ref (N0 + 229)), (4, .ref (N0 + 230)), (5, .int 0)]) : W p l e { frames := 2048, cells := 600002, slots := 7302232, locals := 84000 } s m #[.ref b] below meth c H locs 231 4980 (lw_Z below #[.ref b] s) (F0 m 1330 ls []) := by
  have lt_h0 := hG.1.lt h0
  have lt_h1 := hG.1.lt h1
  refine lv_aload_n S.1 S.2.1 dL_law_1330 rfl (lv_at hl 1 rfl) ?_
  refine lv_aload_n S.1 S.2.1 dL_law_1331 rfl (lv_at hl 0 rfl) ?_
  refine lv_iload S.1 S.2.1 dL_law_1332 (lv_at hl 5 rfl) ?_
  refine lv_iconst (v := 1) S.1 S.2.1 dL_law_1334 (by decide) ?_
  refine lv_iadd S.1 S.2.1 dL_law_1335 ?_
  refine fx_topi (y := 1) (by decide) ?_
  refine gx_sld (v := a1) S hG hX hbl (fin_l (by decide)) hx1 dL_law_1336 ?_
  refine lv_aload_n S.1 S.2.1 dL_law_1337 rfl (lv_at hl 0 rfl) ?_
  refine lv_iload S.1 S.2.1 dL_law_1338 (lv_at hl 5 rfl) ?_
  refine lv_iconst (v := 2) S.1 S.2.1 dL_law_1340 (by decide) ?_
  refine lv_iadd S.1 S.2.1 dL_law_1341 ?_
  refine fx_topi (y := 2) (by decide) ?_
  refine gx_sld (v := a2) S hG hX hbl (fin_l (by decide)) hx2 dL_law_1342 ?_
  refine lv_aload_n S.1 S.2.1 dL_law_1343 rfl (lv_at hl 3 rfl) ?_
  refine fx_cTi (As := [.ref N0, .int a1, .int a2, .ref (N0 + 229)]) (rest := []) S hG (k691_L_parent g_a1_le_m1 hst (by omega) h0) (vx_cwSW 4 S.2.2.2.2 gL_law_L_parent rfl rfl rfl (by decide +kernel) ⟨Nat.le_of_ble_eq_true rfl, Nat.le_of_ble_eq_true rfl⟩) rfl hl.1 rfl (Nat.le_of_ble_eq_true rfl) dL_law_1344 ⟨Nat.le_of_ble_eq_true rfl, Nat.le_of_ble_eq_true rfl⟩ (fun rv_u_1 u_1 H locs hp hG => ?_)
  obtain ⟨rfl, hu_1⟩ := hp
  refine W.widen (k := 232) (n := 4986) (by decide) (by decide) ?_
  refine lv_istore (lv' := [(6, .int 1), (0, .ref b), (1, .ref N0), (2, .ref (N0 + 164)), (3, .ref (N0 + 229)), (4, .ref (N0 + 230)), (5, .int 0)]) S.1 S.2.1 dL_law_1347 hl (by decide) rfl (fun ls hl => ?_)
  refine lv_aload_n S.1 S.2.1 dL_law_1349 rfl (lv_at hl 3 rfl) ?_
  refine lv_aload_n S.1 S.2.1 dL_law_1350 rfl (lv_at hl 1 rfl) ?_
  refine lv_iload S.1 S.2.1 dL_law_1351 (lv_at hl 6 rfl) ?_
  refine lv_iconst (v := 1) S.1 S.2.1 dL_law_1353 (by decide) ?_
  refine lv_iadd S.1 S.2.1 dL_law_1354 ?_
  refine fx_topi (y := 1) (by decide) ?_
  refine gx_sld (v := a1) S hG hX hbl (fin_l (by decide)) hx1 dL_law_1355 ?_
  refine lv_aload_n S.1 S.2.1 dL_law_1356 rfl (lv_at hl 1 rfl) ?_
  refine lv_iload S.1 S.2.1 dL_law_1357 (lv_at hl 6 rfl) ?_
  refine lv_iconst (v := 2) S.1 S.2.1 dL_law_1359 (by decide) ?_
  refine lv_iadd S.1 S.2.1 dL_law_1360 ?_
  refine fx_topi (y := 2) (by decide) ?_
  refine gx_sld (v := a2) S hG hX hbl (fin_l (by decide)) hx2 dL_law_1361 ?_
  refine fx_cVi (As := [.int a1, .int a2]) (rest := []) S hG (k692_X10_parent g_a1_le_m1 (by omega) h1) h1 rfl (cwV 2 S.2.2.2.2 gL_law_X10_parent rfl rfl rfl (by decide +kernel) ⟨Nat.le_of_ble_eq_true rfl, Nat.le_of_ble_eq_true rfl⟩) rfl hl.1 rfl (Nat.le_of_ble_eq_true rfl) dL_law_1362 ⟨Nat.le_of_ble_eq_true rfl, Nat.le_of_ble_eq_true rfl⟩ (fun rv_2 _ H locs hp hG => ?_)
  subst rv_2
  refine lv_istore (lv' := [(7, .int 0), (6, .int 1), (0, .ref b), (1, .ref N0), (2, .ref (N0 + 164)), (3, .ref (N0 + 229)), (4, .ref (N0 + 230)), (5, .int 0)]) S.1 S.2.1 dL_law_1365 hl (by decide) rfl (fun ls hl => ?_)
  refine lv_aload_n S.1 S.2.1 dL_law_1367 rfl (lv_at hl 4 rfl) ?_
  refine fx_cVi (As := []) (rest := []) S hG (k25_X10_thrown (by omega) fu_s) fu_s rfl (cwV 0 S.2.2.2.2 gL_law_X10_thrown rfl rfl rfl (by decide +kernel) ⟨Nat.le_of_ble_eq_true rfl, Nat.le_of_ble_eq_true rfl⟩) rfl hl.1 rfl (Nat.le_of_ble_eq_true rfl) dL_law_1368 ⟨Nat.le_of_ble_eq_true rfl, Nat.le_of_ble_eq_true rfl⟩ (fun rv_3 _ H locs hp hG => ?_)
  subst rv_3
  refine lv_iload S.1 S.2.1 dL_law_1371 (lv_at hl 1 rfl) ?_
  refine lv_icmp_eq (tgt := 1378) S.1 S.2.1 dL_law_1373 (by decide) (fun _ => ?_) (fun c => absurd (by decide) c)
  refine lv_iload S.1 S.2.1 dL_law_1378 (lv_at hl 1 rfl) ?_
  refine lv_if_ne (tgt := 1395) S.1 S.2.1 dL_law_1380 (by decide) (fun _ => ?_) (fun c => absurd c (by decide))
  refine lv_goto (tgt := 2650) S.1 S.2.1 dL_law_1395 (by decide) ?_
  refine lv_iinc (v := 5) (lv' := [(5, .int 5), (7, .int 0), (6, .int 1), (0, .ref b), (1, .ref N0), (2, .ref (N0 + 164)), (3, .ref (N0 + 229)), (4, .ref (N0 + 230))]) S.1 S.2.1 dL_law_2650 hl (k := 7) rfl (by decide) (by decide) rfl (fun ls hl => ?_)
  refine lv_goto (tgt := 28) S.1 S.2.1 dL_law_2653 (by decide) ?_
  refine lv_iload S.1 S.2.1 dL_law_28 (lv_at hl 0 rfl) ?_
  refine lv_aload_n S.1 S.2.1 dL_law_30 rfl (lv_at hl 3 rfl) ?_
  refine gx_slen (v := 5) S hG hX hbl rfl dL_law_31 ?_
  refine lv_iconst (v := 5) S.1 S.2.1 dL_law_32 (by decide) ?_
  refine lv_isub S.1 S.2.1 dL_law_33 ?_
  refine fx_topi (y := 0) (by decide) ?_
  refine lv_icmp_gt (tgt := 2656) S.1 S.2.1 dL_law_34 (by decide) (fun _ => ?_) (fun c => absurd (by decide) c)
  refine lv_iconst (v := 1) S.1 S.2.1 dL_law_2656 (by decide) ?_
  refine va_forget (fun q hq => by rw [hN]; exact hG.2.1.2.2 q hq) ?_
  refine W.widen (k := 600002) (n := 7302232) (by decide) (by decide) ?_
  exact lw_ret (d0 := s.drawn) (Drawn.sameBut.refl _ _) S.1 S.2.1 hr hlocks dL_law_2657
theorem l17_1 {p : Program} {e : Env} {s : State} {m : MethodId} {below : List Frame} {meth : Method} {c : Code} {b : Nat} {xs : Nat → Int32} {H : Heap} {locs : List Loc} {ls : Array Slot} {n : Nat} {a2 a3 a4 : Int32} (g_a2_le_m1 : a2 ≤ (-1)) (S : CallFix p m c cL_law 9 s #[.ref b] wsL_law "TreeDifferLaw") (hr : meth.sig.returnType = ret) (hlocks : meth.locks = false) (hst : l.stackTraces = false) (hX : va_X b 5 xs s s.heap) (hbl : b < s.heap.size ∧ b < N0) (hN : s.heap.size = N0) (hn : N0 + 231 ≤ n) (hx1 : xs 1 = 0) (hx2 : xs 2 = a2) (hx3 : xs 3 = a3) (hx4 : xs 4 = a4) (h0 : F N0 = some (.inr (9, [.ref (N0 + 1), .ref (N0 + 2), .ref (N0 + 11), .ref (N0 + 13), .ref (N0 + 63), .ref (N0 + 65), .ref (N0 + 85), .int (-1), .int (-1), .int 32]))) (h1 : F (N0 + 1) = some (.inl (cTr, 3, .inr (.inr (.inr (.inr (va_up (va_up (va_up (fun _ => none) 0 (some (N0 + 143))) 1 (some (N0 + 150))) 2 (some (N0 + 157))))))))) (h2 : F (N0 + 143) = some (.inr (7, [.ref (N0 + 144), .ref (N0 + 145), .ref (N0 + 146), .ref (N0 + 147), .ref (N0 + 148), .ref (N0 + 149), .int 1]))) (h3 : F (N0 + 164) = some (.inr (12, [.ref (N0 + 165), .int 0, .ref (N0 + 181), .int 0, .int 0, .int 0, .int (-1), .ref (ql 24), .ref (N0 + 182), .ref (N0 + 187), .ref (N0 + 208), .ref (N0 + 209), .ref (N0 + 210), .ref (N0 + 211), .ref (N0 + 212), .int 0, .ref (N0 + 213), .ref (N0 + 218), .ref (N0 + 223), .ref (N0 + 224), .ref (N0 + 225), .ref (N0 + 226), .ref (N0 + 227), .int 0, .int 0, .ref (N0 + 228), .null, .int (-1), .int 0, .int 0, .int 0]))) (h4 : F (N0 + 165) = some (.inl (cTm, 3, .inr (.inr (.inr (.inr (va_up (va_up (va_up (fun _ => none) 0 (some (N0 + 166))) 1 (some (N0 + 171))) 2 (some (N0 + 176))))))))) (h5 : F (N0 + 166) = some (.inr (11, [.ref (N0 + 167), .ref (N0 + 168), .ref (N0 + 169), .ref (N0 + 170), .int 1]))) (hG : fG N0 D vwCl (fty cI cC cL cD cII cTr cTm cIt cB) (fen ql) s F n H locs) (hl : lv_has ls 9 [(0, .ref b), (1, .ref N0), (2, .ref (N0 + 164)), (3, .ref (N0 + 229)), (4, .ref (N0 + 230)), (5, .int 0)]) : W p l e { frames := 2048, cells := 600002, slots := 7302232, locals := 84000 } s m #[.ref b] below meth c H locs 231 4980 (lw_Z below #[.ref b] s) (F0 m 1330 ls []) := by
  have lt_h0 := hG.1.lt h0
  have lt_h1 := hG.1.lt h1
  have lt_h2 := hG.1.lt h2
  have lt_h3 := hG.1.lt h3
  have lt_h4 := hG.1.lt h4
  have lt_h5 := hG.1.lt h5
  refine lv_aload_n S.1 S.2.1 dL_law_1330 rfl (lv_at hl 1 rfl) ?_
  refine lv_aload_n S.1 S.2.1 dL_law_1331 rfl (lv_at hl 0 rfl) ?_
  refine lv_iload S.1 S.2.1 dL_law_1332 (lv_at hl 5 rfl) ?_
  refine lv_iconst (v := 1) S.1 S.2.1 dL_law_1334 (by decide) ?_
  refine lv_iadd S.1 S.2.1 dL_law_1335 ?_
  refine fx_topi (y := 1) (by decide) ?_
  refine gx_sld (v := 0) S hG hX hbl (fin_l (by decide)) hx1 dL_law_1336 ?_
  refine lv_aload_n S.1 S.2.1 dL_law_1337 rfl (lv_at hl 0 rfl) ?_
  refine lv_iload S.1 S.2.1 dL_law_1338 (lv_at hl 5 rfl) ?_
  refine lv_iconst (v := 2) S.1 S.2.1 dL_law_1340 (by decide) ?_
  refine lv_iadd S.1 S.2.1 dL_law_1341 ?_
  refine fx_topi (y := 2) (by decide) ?_
  refine gx_sld (v := a2) S hG hX hbl (fin_l (by decide)) hx2 dL_law_1342 ?_
  refine lv_aload_n S.1 S.2.1 dL_law_1343 rfl (lv_at hl 3 rfl) ?_
  refine fx_cTi (As := [.ref N0, .int 0, .int a2, .ref (N0 + 229)]) (rest := []) S hG (k694_L_parent g_a2_le_m1 hst (by omega) h0 h1 h2) (vx_cwSW 4 S.2.2.2.2 gL_law_L_parent rfl rfl rfl (by decide +kernel) ⟨Nat.le_of_ble_eq_true rfl, Nat.le_of_ble_eq_true rfl⟩) rfl hl.1 rfl (Nat.le_of_ble_eq_true rfl) dL_law_1344 ⟨Nat.le_of_ble_eq_true rfl, Nat.le_of_ble_eq_true rfl⟩ (fun rv_u_1 u_1 H locs hp hG => ?_)
  obtain ⟨rfl, hu_1⟩ := hp
  refine W.widen (k := 232) (n := 4986) (by decide) (by decide) ?_
  refine lv_istore (lv' := [(6, .int 1), (0, .ref b), (1, .ref N0), (2, .ref (N0 + 164)), (3, .ref (N0 + 229)), (4, .ref (N0 + 230)), (5, .int 0)]) S.1 S.2.1 dL_law_1347 hl (by decide) rfl (fun ls hl => ?_)
  refine lv_aload_n S.1 S.2.1 dL_law_1349 rfl (lv_at hl 3 rfl) ?_
  refine lv_aload_n S.1 S.2.1 dL_law_1350 rfl (lv_at hl 1 rfl) ?_
  refine lv_iload S.1 S.2.1 dL_law_1351 (lv_at hl 6 rfl) ?_
  refine lv_iconst (v := 1) S.1 S.2.1 dL_law_1353 (by decide) ?_
  refine lv_iadd S.1 S.2.1 dL_law_1354 ?_
  refine fx_topi (y := 1) (by decide) ?_
  refine gx_sld (v := 0) S hG hX hbl (fin_l (by decide)) hx1 dL_law_1355 ?_
  refine lv_aload_n S.1 S.2.1 dL_law_1356 rfl (lv_at hl 1 rfl) ?_
  refine lv_iload S.1 S.2.1 dL_law_1357 (lv_at hl 6 rfl) ?_
  refine lv_iconst (v := 2) S.1 S.2.1 dL_law_1359 (by decide) ?_
  refine lv_iadd S.1 S.2.1 dL_law_1360 ?_
  refine fx_topi (y := 2) (by decide) ?_
  refine gx_sld (v := a2) S hG hX hbl (fin_l (by decide)) hx2 dL_law_1361 ?_
  refine fx_cVi (As := [.int 0, .int a2]) (rest := []) S hG (k695_X10_parent g_a2_le_m1 (by omega) h3 h4 h5) h3 rfl (cwV 2 S.2.2.2.2 gL_law_X10_parent rfl rfl rfl (by decide +kernel) ⟨Nat.le_of_ble_eq_true rfl, Nat.le_of_ble_eq_true rfl⟩) rfl hl.1 rfl (Nat.le_of_ble_eq_true rfl) dL_law_1362 ⟨Nat.le_of_ble_eq_true rfl, Nat.le_of_ble_eq_true rfl⟩ (fun rv_2 _ H locs hp hG => ?_)
  subst rv_2
  refine lv_istore (lv' := [(7, .int 0), (6, .int 1), (0, .ref b), (1, .ref N0), (2, .ref (N0 + 164)), (3, .ref (N0 + 229)), (4, .ref (N0 + 230)), (5, .int 0)]) S.1 S.2.1 dL_law_1365 hl (by decide) rfl (fun ls hl => ?_)
  refine lv_aload_n S.1 S.2.1 dL_law_1367 rfl (lv_at hl 4 rfl) ?_
  refine fx_cVi (As := []) (rest := []) S hG (k25_X10_thrown (by omega) fu_s) fu_s rfl (cwV 0 S.2.2.2.2 gL_law_X10_thrown rfl rfl rfl (by decide +kernel) ⟨Nat.le_of_ble_eq_true rfl, Nat.le_of_ble_eq_true rfl⟩) rfl hl.1 rfl (Nat.le_of_ble_eq_true rfl) dL_law_1368 ⟨Nat.le_of_ble_eq_true rfl, Nat.le_of_ble_eq_true rfl⟩ (fun rv_3 _ H locs hp hG => ?_)
  subst rv_3
  refine lv_iload S.1 S.2.1 dL_law_1371 (lv_at hl 1 rfl) ?_
  refine lv_icmp_eq (tgt := 1378) S.1 S.2.1 dL_law_1373 (by decide) (fun _ => ?_) (fun c => absurd (by decide) c)
  refine lv_iload S.1 S.2.1 dL_law_1378 (lv_at hl 1 rfl) ?_
  refine lv_if_ne (tgt := 1395) S.1 S.2.1 dL_law_1380 (by decide) (fun _ => ?_) (fun c => absurd c (by decide))
  refine lv_goto (tgt := 2650) S.1 S.2.1 dL_law_1395 (by decide) ?_
  refine lv_iinc (v := 5) (lv' := [(5, .int 5), (7, .int 0), (6, .int 1), (0, .ref b), (1, .ref N0), (2, .ref (N0 + 164)), (3, .ref (N0 + 229)), (4, .ref (N0 + 230))]) S.1 S.2.1 dL_law_2650 hl (k := 7) rfl (by decide) (by decide) rfl (fun ls hl => ?_)
  refine lv_goto (tgt := 28) S.1 S.2.1 dL_law_2653 (by decide) ?_
  refine lv_iload S.1 S.2.1 dL_law_28 (lv_at hl 0 rfl) ?_
  refine lv_aload_n S.1 S.2.1 dL_law_30 rfl (lv_at hl 3 rfl) ?_
  refine gx_slen (v := 5) S hG hX hbl rfl dL_law_31 ?_
  refine lv_iconst (v := 5) S.1 S.2.1 dL_law_32 (by decide) ?_
  refine lv_isub S.1 S.2.1 dL_law_33 ?_
  refine fx_topi (y := 0) (by decide) ?_
  refine lv_icmp_gt (tgt := 2656) S.1 S.2.1 dL_law_34 (by decide) (fun _ => ?_) (fun c => absurd (by decide) c)
  refine lv_iconst (v := 1) S.1 S.2.1 dL_law_2656 (by decide) ?_
  refine va_forget (fun q hq => by rw [hN]; exact hG.2.1.2.2 q hq) ?_
  refine W.widen (k := 600002) (n := 7302232) (by decide) (by decide) ?_
  exact lw_ret (d0 := s.drawn) (Drawn.sameBut.refl _ _) S.1 S.2.1 hr hlocks dL_law_2657
theorem l17_2 {p : Program} {e : Env} {s : State} {m : MethodId} {below : List Frame} {meth : Method} {c : Code} {b : Nat} {xs : Nat → Int32} {H : Heap} {locs : List Loc} {ls : Array Slot} {n : Nat} {a3 a4 : Int32} (S : CallFix p m c cL_law 9 s #[.ref b] wsL_law "TreeDifferLaw") (hr : meth.sig.returnType = ret) (hlocks : meth.locks = false) (hst : l.stackTraces = false) (hX : va_X b 5 xs s s.heap) (hbl : b < s.heap.size ∧ b < N0) (hN : s.heap.size = N0) (hn : N0 + 231 ≤ n) (hx1 : xs 1 = 0) (hx2 : xs 2 = 0) (hx3 : xs 3 = a3) (hx4 : xs 4 = a4) (h0 : F N0 = some (.inr (9, [.ref (N0 + 1), .ref (N0 + 2), .ref (N0 + 11), .ref (N0 + 13), .ref (N0 + 63), .ref (N0 + 65), .ref (N0 + 85), .int (-1), .int (-1), .int 32]))) (h1 : F (N0 + 1) = some (.inl (cTr, 3, .inr (.inr (.inr (.inr (va_up (va_up (va_up (fun _ => none) 0 (some (N0 + 143))) 1 (some (N0 + 150))) 2 (some (N0 + 157))))))))) (h2 : F (N0 + 143) = some (.inr (7, [.ref (N0 + 144), .ref (N0 + 145), .ref (N0 + 146), .ref (N0 + 147), .ref (N0 + 148), .ref (N0 + 149), .int 1]))) (h3 : F (N0 + 164) = some (.inr (12, [.ref (N0 + 165), .int 0, .ref (N0 + 181), .int 0, .int 0, .int 0, .int (-1), .ref (ql 24), .ref (N0 + 182), .ref (N0 + 187), .ref (N0 + 208), .ref (N0 + 209), .ref (N0 + 210), .ref (N0 + 211), .ref (N0 + 212), .int 0, .ref (N0 + 213), .ref (N0 + 218), .ref (N0 + 223), .ref (N0 + 224), .ref (N0 + 225), .ref (N0 + 226), .ref (N0 + 227), .int 0, .int 0, .ref (N0 + 228), .null, .int (-1), .int 0, .int 0, .int 0]))) (h4 : F (N0 + 165) = some (.inl (cTm, 3, .inr (.inr (.inr (.inr (va_up (va_up (va_up (fun _ => none) 0 (some (N0 + 166))) 1 (some (N0 + 171))) 2 (some (N0 + 176))))))))) (h5 : F (N0 + 166) = some (.inr (11, [.ref (N0 + 167), .ref (N0 + 168), .ref (N0 + 169), .ref (N0 + 170), .int 1]))) (hG : fG N0 D vwCl (fty cI cC cL cD cII cTr cTm cIt cB) (fen ql) s F n H locs) (hl : lv_has ls 9 [(0, .ref b), (1, .ref N0), (2, .ref (N0 + 164)), (3, .ref (N0 + 229)), (4, .ref (N0 + 230)), (5, .int 0)]) : W p l e { frames := 2048, cells := 600002, slots := 7302232, locals := 84000 } s m #[.ref b] below meth c H locs 231 4980 (lw_Z below #[.ref b] s) (F0 m 1330 ls []) := by
  have lt_h0 := hG.1.lt h0
  have lt_h1 := hG.1.lt h1
  have lt_h2 := hG.1.lt h2
  have lt_h3 := hG.1.lt h3
  have lt_h4 := hG.1.lt h4
  have lt_h5 := hG.1.lt h5
  refine lv_aload_n S.1 S.2.1 dL_law_1330 rfl (lv_at hl 1 rfl) ?_
  refine lv_aload_n S.1 S.2.1 dL_law_1331 rfl (lv_at hl 0 rfl) ?_
  refine lv_iload S.1 S.2.1 dL_law_1332 (lv_at hl 5 rfl) ?_
  refine lv_iconst (v := 1) S.1 S.2.1 dL_law_1334 (by decide) ?_
  refine lv_iadd S.1 S.2.1 dL_law_1335 ?_
  refine fx_topi (y := 1) (by decide) ?_
  refine gx_sld (v := 0) S hG hX hbl (fin_l (by decide)) hx1 dL_law_1336 ?_
  refine lv_aload_n S.1 S.2.1 dL_law_1337 rfl (lv_at hl 0 rfl) ?_
  refine lv_iload S.1 S.2.1 dL_law_1338 (lv_at hl 5 rfl) ?_
  refine lv_iconst (v := 2) S.1 S.2.1 dL_law_1340 (by decide) ?_
  refine lv_iadd S.1 S.2.1 dL_law_1341 ?_
  refine fx_topi (y := 2) (by decide) ?_
  refine gx_sld (v := 0) S hG hX hbl (fin_l (by decide)) hx2 dL_law_1342 ?_
  refine lv_aload_n S.1 S.2.1 dL_law_1343 rfl (lv_at hl 3 rfl) ?_
  refine fx_cTi (As := [.ref N0, .int 0, .int 0, .ref (N0 + 229)]) (rest := []) S hG (k697_L_parent hst (by omega) h0 h1 h2) (vx_cwSW 4 S.2.2.2.2 gL_law_L_parent rfl rfl rfl (by decide +kernel) ⟨Nat.le_of_ble_eq_true rfl, Nat.le_of_ble_eq_true rfl⟩) rfl hl.1 rfl (Nat.le_of_ble_eq_true rfl) dL_law_1344 ⟨Nat.le_of_ble_eq_true rfl, Nat.le_of_ble_eq_true rfl⟩ (fun rv_u_1 u_1 H locs hp hG => ?_)
  obtain ⟨rfl, hu_1⟩ := hp
  refine W.widen (k := 232) (n := 4986) (by decide) (by decide) ?_
  refine lv_istore (lv' := [(6, .int 2), (0, .ref b), (1, .ref N0), (2, .ref (N0 + 164)), (3, .ref (N0 + 229)), (4, .ref (N0 + 230)), (5, .int 0)]) S.1 S.2.1 dL_law_1347 hl (by decide) rfl (fun ls hl => ?_)
  refine lv_aload_n S.1 S.2.1 dL_law_1349 rfl (lv_at hl 3 rfl) ?_
  refine lv_aload_n S.1 S.2.1 dL_law_1350 rfl (lv_at hl 1 rfl) ?_
  refine lv_iload S.1 S.2.1 dL_law_1351 (lv_at hl 6 rfl) ?_
  refine lv_iconst (v := 1) S.1 S.2.1 dL_law_1353 (by decide) ?_
  refine lv_iadd S.1 S.2.1 dL_law_1354 ?_
  refine fx_topi (y := 1) (by decide) ?_
  refine gx_sld (v := 0) S hG hX hbl (fin_l (by decide)) hx1 dL_law_1355 ?_
  refine lv_aload_n S.1 S.2.1 dL_law_1356 rfl (lv_at hl 1 rfl) ?_
  refine lv_iload S.1 S.2.1 dL_law_1357 (lv_at hl 6 rfl) ?_
  refine lv_iconst (v := 2) S.1 S.2.1 dL_law_1359 (by decide) ?_
  refine lv_iadd S.1 S.2.1 dL_law_1360 ?_
  refine fx_topi (y := 2) (by decide) ?_
  refine gx_sld (v := 0) S hG hX hbl (fin_l (by decide)) hx2 dL_law_1361 ?_
  refine fx_cVi (As := [.int 0, .int 0]) (rest := []) S hG (k698_X10_parent (by omega) h3 h4 h5) h3 rfl (cwV 2 S.2.2.2.2 gL_law_X10_parent rfl rfl rfl (by decide +kernel) ⟨Nat.le_of_ble_eq_true rfl, Nat.le_of_ble_eq_true rfl⟩) rfl hl.1 rfl (Nat.le_of_ble_eq_true rfl) dL_law_1362 ⟨Nat.le_of_ble_eq_true rfl, Nat.le_of_ble_eq_true rfl⟩ (fun rv_2 _ H locs hp hG => ?_)
  subst rv_2
  refine lv_istore (lv' := [(7, .int 0), (6, .int 2), (0, .ref b), (1, .ref N0), (2, .ref (N0 + 164)), (3, .ref (N0 + 229)), (4, .ref (N0 + 230)), (5, .int 0)]) S.1 S.2.1 dL_law_1365 hl (by decide) rfl (fun ls hl => ?_)
  refine lv_aload_n S.1 S.2.1 dL_law_1367 rfl (lv_at hl 4 rfl) ?_
  refine fx_cVi (As := []) (rest := []) S hG (k101_X10_thrown (by omega) fu_s) fu_s rfl (cwV 0 S.2.2.2.2 gL_law_X10_thrown rfl rfl rfl (by decide +kernel) ⟨Nat.le_of_ble_eq_true rfl, Nat.le_of_ble_eq_true rfl⟩) rfl hl.1 rfl (Nat.le_of_ble_eq_true rfl) dL_law_1368 ⟨Nat.le_of_ble_eq_true rfl, Nat.le_of_ble_eq_true rfl⟩ (fun rv_3 _ H locs hp hG => ?_)
  subst rv_3
  refine lv_iload S.1 S.2.1 dL_law_1371 (lv_at hl 1 rfl) ?_
  refine lv_icmp_eq (tgt := 1378) S.1 S.2.1 dL_law_1373 (by decide) (fun _ => ?_) (fun c => absurd (by decide) c)
  refine lv_iload S.1 S.2.1 dL_law_1378 (lv_at hl 1 rfl) ?_
  refine lv_if_ne (tgt := 1395) S.1 S.2.1 dL_law_1380 (by decide) (fun _ => ?_) (fun c => absurd c (by decide))
  refine lv_goto (tgt := 2650) S.1 S.2.1 dL_law_1395 (by decide) ?_
  refine lv_iinc (v := 5) (lv' := [(5, .int 5), (7, .int 0), (6, .int 2), (0, .ref b), (1, .ref N0), (2, .ref (N0 + 164)), (3, .ref (N0 + 229)), (4, .ref (N0 + 230))]) S.1 S.2.1 dL_law_2650 hl (k := 7) rfl (by decide) (by decide) rfl (fun ls hl => ?_)
  refine lv_goto (tgt := 28) S.1 S.2.1 dL_law_2653 (by decide) ?_
  refine lv_iload S.1 S.2.1 dL_law_28 (lv_at hl 0 rfl) ?_
  refine lv_aload_n S.1 S.2.1 dL_law_30 rfl (lv_at hl 3 rfl) ?_
  refine gx_slen (v := 5) S hG hX hbl rfl dL_law_31 ?_
  refine lv_iconst (v := 5) S.1 S.2.1 dL_law_32 (by decide) ?_
  refine lv_isub S.1 S.2.1 dL_law_33 ?_
  refine fx_topi (y := 0) (by decide) ?_
  refine lv_icmp_gt (tgt := 2656) S.1 S.2.1 dL_law_34 (by decide) (fun _ => ?_) (fun c => absurd (by decide) c)
  refine lv_iconst (v := 1) S.1 S.2.1 dL_law_2656 (by decide) ?_
  refine va_forget (fun q hq => by rw [hN]; exact hG.2.1.2.2 q hq) ?_
  refine W.widen (k := 600002) (n := 7302232) (by decide) (by decide) ?_
  exact lw_ret (d0 := s.drawn) (Drawn.sameBut.refl _ _) S.1 S.2.1 hr hlocks dL_law_2657
theorem l17_3 {p : Program} {e : Env} {s : State} {m : MethodId} {below : List Frame} {meth : Method} {c : Code} {b : Nat} {xs : Nat → Int32} {H : Heap} {locs : List Loc} {ls : Array Slot} {n : Nat} {a2 a3 a4 : Int32} (g_a2_ge_1 : 1 ≤ a2) (S : CallFix p m c cL_law 9 s #[.ref b] wsL_law "TreeDifferLaw") (hr : meth.sig.returnType = ret) (hlocks : meth.locks = false) (hst : l.stackTraces = false) (hX : va_X b 5 xs s s.heap) (hbl : b < s.heap.size ∧ b < N0) (hN : s.heap.size = N0) (hn : N0 + 231 ≤ n) (hx1 : xs 1 = 0) (hx2 : xs 2 = a2) (hx3 : xs 3 = a3) (hx4 : xs 4 = a4) (h0 : F N0 = some (.inr (9, [.ref (N0 + 1), .ref (N0 + 2), .ref (N0 + 11), .ref (N0 + 13), .ref (N0 + 63), .ref (N0 + 65), .ref (N0 + 85), .int (-1), .int (-1), .int 32]))) (h1 : F (N0 + 1) = some (.inl (cTr, 3, .inr (.inr (.inr (.inr (va_up (va_up (va_up (fun _ => none) 0 (some (N0 + 143))) 1 (some (N0 + 150))) 2 (some (N0 + 157))))))))) (h2 : F (N0 + 143) = some (.inr (7, [.ref (N0 + 144), .ref (N0 + 145), .ref (N0 + 146), .ref (N0 + 147), .ref (N0 + 148), .ref (N0 + 149), .int 1]))) (h3 : F (N0 + 164) = some (.inr (12, [.ref (N0 + 165), .int 0, .ref (N0 + 181), .int 0, .int 0, .int 0, .int (-1), .ref (ql 24), .ref (N0 + 182), .ref (N0 + 187), .ref (N0 + 208), .ref (N0 + 209), .ref (N0 + 210), .ref (N0 + 211), .ref (N0 + 212), .int 0, .ref (N0 + 213), .ref (N0 + 218), .ref (N0 + 223), .ref (N0 + 224), .ref (N0 + 225), .ref (N0 + 226), .ref (N0 + 227), .int 0, .int 0, .ref (N0 + 228), .null, .int (-1), .int 0, .int 0, .int 0]))) (h4 : F (N0 + 165) = some (.inl (cTm, 3, .inr (.inr (.inr (.inr (va_up (va_up (va_up (fun _ => none) 0 (some (N0 + 166))) 1 (some (N0 + 171))) 2 (some (N0 + 176))))))))) (h5 : F (N0 + 166) = some (.inr (11, [.ref (N0 + 167), .ref (N0 + 168), .ref (N0 + 169), .ref (N0 + 170), .int 1]))) (hG : fG N0 D vwCl (fty cI cC cL cD cII cTr cTm cIt cB) (fen ql) s F n H locs) (hl : lv_has ls 9 [(0, .ref b), (1, .ref N0), (2, .ref (N0 + 164)), (3, .ref (N0 + 229)), (4, .ref (N0 + 230)), (5, .int 0)]) : W p l e { frames := 2048, cells := 600002, slots := 7302232, locals := 84000 } s m #[.ref b] below meth c H locs 231 4980 (lw_Z below #[.ref b] s) (F0 m 1330 ls []) := by
  have lt_h0 := hG.1.lt h0
  have lt_h1 := hG.1.lt h1
  have lt_h2 := hG.1.lt h2
  have lt_h3 := hG.1.lt h3
  have lt_h4 := hG.1.lt h4
  have lt_h5 := hG.1.lt h5
  refine lv_aload_n S.1 S.2.1 dL_law_1330 rfl (lv_at hl 1 rfl) ?_
  refine lv_aload_n S.1 S.2.1 dL_law_1331 rfl (lv_at hl 0 rfl) ?_
  refine lv_iload S.1 S.2.1 dL_law_1332 (lv_at hl 5 rfl) ?_
  refine lv_iconst (v := 1) S.1 S.2.1 dL_law_1334 (by decide) ?_
  refine lv_iadd S.1 S.2.1 dL_law_1335 ?_
  refine fx_topi (y := 1) (by decide) ?_
  refine gx_sld (v := 0) S hG hX hbl (fin_l (by decide)) hx1 dL_law_1336 ?_
  refine lv_aload_n S.1 S.2.1 dL_law_1337 rfl (lv_at hl 0 rfl) ?_
  refine lv_iload S.1 S.2.1 dL_law_1338 (lv_at hl 5 rfl) ?_
  refine lv_iconst (v := 2) S.1 S.2.1 dL_law_1340 (by decide) ?_
  refine lv_iadd S.1 S.2.1 dL_law_1341 ?_
  refine fx_topi (y := 2) (by decide) ?_
  refine gx_sld (v := a2) S hG hX hbl (fin_l (by decide)) hx2 dL_law_1342 ?_
  refine lv_aload_n S.1 S.2.1 dL_law_1343 rfl (lv_at hl 3 rfl) ?_
  refine fx_cTi (As := [.ref N0, .int 0, .int a2, .ref (N0 + 229)]) (rest := []) S hG (k700_L_parent g_a2_ge_1 hst (by omega) h0 h1 h2) (vx_cwSW 4 S.2.2.2.2 gL_law_L_parent rfl rfl rfl (by decide +kernel) ⟨Nat.le_of_ble_eq_true rfl, Nat.le_of_ble_eq_true rfl⟩) rfl hl.1 rfl (Nat.le_of_ble_eq_true rfl) dL_law_1344 ⟨Nat.le_of_ble_eq_true rfl, Nat.le_of_ble_eq_true rfl⟩ (fun rv_u_1 u_1 H locs hp hG => ?_)
  obtain ⟨rfl, hu_1⟩ := hp
  refine W.widen (k := 232) (n := 4986) (by decide) (by decide) ?_
  refine lv_istore (lv' := [(6, .int 1), (0, .ref b), (1, .ref N0), (2, .ref (N0 + 164)), (3, .ref (N0 + 229)), (4, .ref (N0 + 230)), (5, .int 0)]) S.1 S.2.1 dL_law_1347 hl (by decide) rfl (fun ls hl => ?_)
  refine lv_aload_n S.1 S.2.1 dL_law_1349 rfl (lv_at hl 3 rfl) ?_
  refine lv_aload_n S.1 S.2.1 dL_law_1350 rfl (lv_at hl 1 rfl) ?_
  refine lv_iload S.1 S.2.1 dL_law_1351 (lv_at hl 6 rfl) ?_
  refine lv_iconst (v := 1) S.1 S.2.1 dL_law_1353 (by decide) ?_
  refine lv_iadd S.1 S.2.1 dL_law_1354 ?_
  refine fx_topi (y := 1) (by decide) ?_
  refine gx_sld (v := 0) S hG hX hbl (fin_l (by decide)) hx1 dL_law_1355 ?_
  refine lv_aload_n S.1 S.2.1 dL_law_1356 rfl (lv_at hl 1 rfl) ?_
  refine lv_iload S.1 S.2.1 dL_law_1357 (lv_at hl 6 rfl) ?_
  refine lv_iconst (v := 2) S.1 S.2.1 dL_law_1359 (by decide) ?_
  refine lv_iadd S.1 S.2.1 dL_law_1360 ?_
  refine fx_topi (y := 2) (by decide) ?_
  refine gx_sld (v := a2) S hG hX hbl (fin_l (by decide)) hx2 dL_law_1361 ?_
  refine fx_cVi (As := [.int 0, .int a2]) (rest := []) S hG (k701_X10_parent g_a2_ge_1 (by omega) h3 h4 h5) h3 rfl (cwV 2 S.2.2.2.2 gL_law_X10_parent rfl rfl rfl (by decide +kernel) ⟨Nat.le_of_ble_eq_true rfl, Nat.le_of_ble_eq_true rfl⟩) rfl hl.1 rfl (Nat.le_of_ble_eq_true rfl) dL_law_1362 ⟨Nat.le_of_ble_eq_true rfl, Nat.le_of_ble_eq_true rfl⟩ (fun rv_2 _ H locs hp hG => ?_)
  subst rv_2
  refine lv_istore (lv' := [(7, .int 0), (6, .int 1), (0, .ref b), (1, .ref N0), (2, .ref (N0 + 164)), (3, .ref (N0 + 229)), (4, .ref (N0 + 230)), (5, .int 0)]) S.1 S.2.1 dL_law_1365 hl (by decide) rfl (fun ls hl => ?_)
  refine lv_aload_n S.1 S.2.1 dL_law_1367 rfl (lv_at hl 4 rfl) ?_
  refine fx_cVi (As := []) (rest := []) S hG (k25_X10_thrown (by omega) fu_s) fu_s rfl (cwV 0 S.2.2.2.2 gL_law_X10_thrown rfl rfl rfl (by decide +kernel) ⟨Nat.le_of_ble_eq_true rfl, Nat.le_of_ble_eq_true rfl⟩) rfl hl.1 rfl (Nat.le_of_ble_eq_true rfl) dL_law_1368 ⟨Nat.le_of_ble_eq_true rfl, Nat.le_of_ble_eq_true rfl⟩ (fun rv_3 _ H locs hp hG => ?_)
  subst rv_3
  refine lv_iload S.1 S.2.1 dL_law_1371 (lv_at hl 1 rfl) ?_
  refine lv_icmp_eq (tgt := 1378) S.1 S.2.1 dL_law_1373 (by decide) (fun _ => ?_) (fun c => absurd (by decide) c)
  refine lv_iload S.1 S.2.1 dL_law_1378 (lv_at hl 1 rfl) ?_
  refine lv_if_ne (tgt := 1395) S.1 S.2.1 dL_law_1380 (by decide) (fun _ => ?_) (fun c => absurd c (by decide))
  refine lv_goto (tgt := 2650) S.1 S.2.1 dL_law_1395 (by decide) ?_
  refine lv_iinc (v := 5) (lv' := [(5, .int 5), (7, .int 0), (6, .int 1), (0, .ref b), (1, .ref N0), (2, .ref (N0 + 164)), (3, .ref (N0 + 229)), (4, .ref (N0 + 230))]) S.1 S.2.1 dL_law_2650 hl (k := 7) rfl (by decide) (by decide) rfl (fun ls hl => ?_)
  refine lv_goto (tgt := 28) S.1 S.2.1 dL_law_2653 (by decide) ?_
  refine lv_iload S.1 S.2.1 dL_law_28 (lv_at hl 0 rfl) ?_
  refine lv_aload_n S.1 S.2.1 dL_law_30 rfl (lv_at hl 3 rfl) ?_
  refine gx_slen (v := 5) S hG hX hbl rfl dL_law_31 ?_
  refine lv_iconst (v := 5) S.1 S.2.1 dL_law_32 (by decide) ?_
  refine lv_isub S.1 S.2.1 dL_law_33 ?_
  refine fx_topi (y := 0) (by decide) ?_
  refine lv_icmp_gt (tgt := 2656) S.1 S.2.1 dL_law_34 (by decide) (fun _ => ?_) (fun c => absurd (by decide) c)
  refine lv_iconst (v := 1) S.1 S.2.1 dL_law_2656 (by decide) ?_
  refine va_forget (fun q hq => by rw [hN]; exact hG.2.1.2.2 q hq) ?_
  refine W.widen (k := 600002) (n := 7302232) (by decide) (by decide) ?_
  exact lw_ret (d0 := s.drawn) (Drawn.sameBut.refl _ _) S.1 S.2.1 hr hlocks dL_law_2657
theorem l17_4 {p : Program} {e : Env} {s : State} {m : MethodId} {below : List Frame} {meth : Method} {c : Code} {b : Nat} {xs : Nat → Int32} {H : Heap} {locs : List Loc} {ls : Array Slot} {n : Nat} {a2 a3 a4 : Int32} (g_a2_le_m1 : a2 ≤ (-1)) (S : CallFix p m c cL_law 9 s #[.ref b] wsL_law "TreeDifferLaw") (hr : meth.sig.returnType = ret) (hlocks : meth.locks = false) (hst : l.stackTraces = false) (hX : va_X b 5 xs s s.heap) (hbl : b < s.heap.size ∧ b < N0) (hN : s.heap.size = N0) (hn : N0 + 231 ≤ n) (hx1 : xs 1 = 1) (hx2 : xs 2 = a2) (hx3 : xs 3 = a3) (hx4 : xs 4 = a4) (h0 : F N0 = some (.inr (9, [.ref (N0 + 1), .ref (N0 + 2), .ref (N0 + 11), .ref (N0 + 13), .ref (N0 + 63), .ref (N0 + 65), .ref (N0 + 85), .int (-1), .int (-1), .int 32]))) (h1 : F (N0 + 1) = some (.inl (cTr, 3, .inr (.inr (.inr (.inr (va_up (va_up (va_up (fun _ => none) 0 (some (N0 + 143))) 1 (some (N0 + 150))) 2 (some (N0 + 157))))))))) (h2 : F (N0 + 150) = some (.inr (7, [.ref (N0 + 151), .ref (N0 + 152), .ref (N0 + 153), .ref (N0 + 154), .ref (N0 + 155), .ref (N0 + 156), .int 1]))) (h3 : F (N0 + 164) = some (.inr (12, [.ref (N0 + 165), .int 0, .ref (N0 + 181), .int 0, .int 0, .int 0, .int (-1), .ref (ql 24), .ref (N0 + 182), .ref (N0 + 187), .ref (N0 + 208), .ref (N0 + 209), .ref (N0 + 210), .ref (N0 + 211), .ref (N0 + 212), .int 0, .ref (N0 + 213), .ref (N0 + 218), .ref (N0 + 223), .ref (N0 + 224), .ref (N0 + 225), .ref (N0 + 226), .ref (N0 + 227), .int 0, .int 0, .ref (N0 + 228), .null, .int (-1), .int 0, .int 0, .int 0]))) (h4 : F (N0 + 165) = some (.inl (cTm, 3, .inr (.inr (.inr (.inr (va_up (va_up (va_up (fun _ => none) 0 (some (N0 + 166))) 1 (some (N0 + 171))) 2 (some (N0 + 176))))))))) (h5 : F (N0 + 171) = some (.inr (11, [.ref (N0 + 172), .ref (N0 + 173), .ref (N0 + 174), .ref (N0 + 175), .int 1]))) (hG : fG N0 D vwCl (fty cI cC cL cD cII cTr cTm cIt cB) (fen ql) s F n H locs) (hl : lv_has ls 9 [(0, .ref b), (1, .ref N0), (2, .ref (N0 + 164)), (3, .ref (N0 + 229)), (4, .ref (N0 + 230)), (5, .int 0)]) : W p l e { frames := 2048, cells := 600002, slots := 7302232, locals := 84000 } s m #[.ref b] below meth c H locs 231 4980 (lw_Z below #[.ref b] s) (F0 m 1330 ls []) := by
  have lt_h0 := hG.1.lt h0
  have lt_h1 := hG.1.lt h1
  have lt_h2 := hG.1.lt h2
  have lt_h3 := hG.1.lt h3
  have lt_h4 := hG.1.lt h4
  have lt_h5 := hG.1.lt h5
  refine lv_aload_n S.1 S.2.1 dL_law_1330 rfl (lv_at hl 1 rfl) ?_
  refine lv_aload_n S.1 S.2.1 dL_law_1331 rfl (lv_at hl 0 rfl) ?_
  refine lv_iload S.1 S.2.1 dL_law_1332 (lv_at hl 5 rfl) ?_
  refine lv_iconst (v := 1) S.1 S.2.1 dL_law_1334 (by decide) ?_
  refine lv_iadd S.1 S.2.1 dL_law_1335 ?_
  refine fx_topi (y := 1) (by decide) ?_
  refine gx_sld (v := 1) S hG hX hbl (fin_l (by decide)) hx1 dL_law_1336 ?_
  refine lv_aload_n S.1 S.2.1 dL_law_1337 rfl (lv_at hl 0 rfl) ?_
  refine lv_iload S.1 S.2.1 dL_law_1338 (lv_at hl 5 rfl) ?_
  refine lv_iconst (v := 2) S.1 S.2.1 dL_law_1340 (by decide) ?_
  refine lv_iadd S.1 S.2.1 dL_law_1341 ?_
  refine fx_topi (y := 2) (by decide) ?_
  refine gx_sld (v := a2) S hG hX hbl (fin_l (by decide)) hx2 dL_law_1342 ?_
  refine lv_aload_n S.1 S.2.1 dL_law_1343 rfl (lv_at hl 3 rfl) ?_
  refine fx_cTi (As := [.ref N0, .int 1, .int a2, .ref (N0 + 229)]) (rest := []) S hG (k703_L_parent g_a2_le_m1 hst (by omega) h0 h1 h2) (vx_cwSW 4 S.2.2.2.2 gL_law_L_parent rfl rfl rfl (by decide +kernel) ⟨Nat.le_of_ble_eq_true rfl, Nat.le_of_ble_eq_true rfl⟩) rfl hl.1 rfl (Nat.le_of_ble_eq_true rfl) dL_law_1344 ⟨Nat.le_of_ble_eq_true rfl, Nat.le_of_ble_eq_true rfl⟩ (fun rv_u_1 u_1 H locs hp hG => ?_)
  obtain ⟨rfl, hu_1⟩ := hp
  refine W.widen (k := 232) (n := 4986) (by decide) (by decide) ?_
  refine lv_istore (lv' := [(6, .int 1), (0, .ref b), (1, .ref N0), (2, .ref (N0 + 164)), (3, .ref (N0 + 229)), (4, .ref (N0 + 230)), (5, .int 0)]) S.1 S.2.1 dL_law_1347 hl (by decide) rfl (fun ls hl => ?_)
  refine lv_aload_n S.1 S.2.1 dL_law_1349 rfl (lv_at hl 3 rfl) ?_
  refine lv_aload_n S.1 S.2.1 dL_law_1350 rfl (lv_at hl 1 rfl) ?_
  refine lv_iload S.1 S.2.1 dL_law_1351 (lv_at hl 6 rfl) ?_
  refine lv_iconst (v := 1) S.1 S.2.1 dL_law_1353 (by decide) ?_
  refine lv_iadd S.1 S.2.1 dL_law_1354 ?_
  refine fx_topi (y := 1) (by decide) ?_
  refine gx_sld (v := 1) S hG hX hbl (fin_l (by decide)) hx1 dL_law_1355 ?_
  refine lv_aload_n S.1 S.2.1 dL_law_1356 rfl (lv_at hl 1 rfl) ?_
  refine lv_iload S.1 S.2.1 dL_law_1357 (lv_at hl 6 rfl) ?_
  refine lv_iconst (v := 2) S.1 S.2.1 dL_law_1359 (by decide) ?_
  refine lv_iadd S.1 S.2.1 dL_law_1360 ?_
  refine fx_topi (y := 2) (by decide) ?_
  refine gx_sld (v := a2) S hG hX hbl (fin_l (by decide)) hx2 dL_law_1361 ?_
  refine fx_cVi (As := [.int 1, .int a2]) (rest := []) S hG (k704_X10_parent g_a2_le_m1 (by omega) h3 h4 h5) h3 rfl (cwV 2 S.2.2.2.2 gL_law_X10_parent rfl rfl rfl (by decide +kernel) ⟨Nat.le_of_ble_eq_true rfl, Nat.le_of_ble_eq_true rfl⟩) rfl hl.1 rfl (Nat.le_of_ble_eq_true rfl) dL_law_1362 ⟨Nat.le_of_ble_eq_true rfl, Nat.le_of_ble_eq_true rfl⟩ (fun rv_2 _ H locs hp hG => ?_)
  subst rv_2
  refine lv_istore (lv' := [(7, .int 0), (6, .int 1), (0, .ref b), (1, .ref N0), (2, .ref (N0 + 164)), (3, .ref (N0 + 229)), (4, .ref (N0 + 230)), (5, .int 0)]) S.1 S.2.1 dL_law_1365 hl (by decide) rfl (fun ls hl => ?_)
  refine lv_aload_n S.1 S.2.1 dL_law_1367 rfl (lv_at hl 4 rfl) ?_
  refine fx_cVi (As := []) (rest := []) S hG (k25_X10_thrown (by omega) fu_s) fu_s rfl (cwV 0 S.2.2.2.2 gL_law_X10_thrown rfl rfl rfl (by decide +kernel) ⟨Nat.le_of_ble_eq_true rfl, Nat.le_of_ble_eq_true rfl⟩) rfl hl.1 rfl (Nat.le_of_ble_eq_true rfl) dL_law_1368 ⟨Nat.le_of_ble_eq_true rfl, Nat.le_of_ble_eq_true rfl⟩ (fun rv_3 _ H locs hp hG => ?_)
  subst rv_3
  refine lv_iload S.1 S.2.1 dL_law_1371 (lv_at hl 1 rfl) ?_
  refine lv_icmp_eq (tgt := 1378) S.1 S.2.1 dL_law_1373 (by decide) (fun _ => ?_) (fun c => absurd (by decide) c)
  refine lv_iload S.1 S.2.1 dL_law_1378 (lv_at hl 1 rfl) ?_
  refine lv_if_ne (tgt := 1395) S.1 S.2.1 dL_law_1380 (by decide) (fun _ => ?_) (fun c => absurd c (by decide))
  refine lv_goto (tgt := 2650) S.1 S.2.1 dL_law_1395 (by decide) ?_
  refine lv_iinc (v := 5) (lv' := [(5, .int 5), (7, .int 0), (6, .int 1), (0, .ref b), (1, .ref N0), (2, .ref (N0 + 164)), (3, .ref (N0 + 229)), (4, .ref (N0 + 230))]) S.1 S.2.1 dL_law_2650 hl (k := 7) rfl (by decide) (by decide) rfl (fun ls hl => ?_)
  refine lv_goto (tgt := 28) S.1 S.2.1 dL_law_2653 (by decide) ?_
  refine lv_iload S.1 S.2.1 dL_law_28 (lv_at hl 0 rfl) ?_
  refine lv_aload_n S.1 S.2.1 dL_law_30 rfl (lv_at hl 3 rfl) ?_
  refine gx_slen (v := 5) S hG hX hbl rfl dL_law_31 ?_
  refine lv_iconst (v := 5) S.1 S.2.1 dL_law_32 (by decide) ?_
  refine lv_isub S.1 S.2.1 dL_law_33 ?_
  refine fx_topi (y := 0) (by decide) ?_
  refine lv_icmp_gt (tgt := 2656) S.1 S.2.1 dL_law_34 (by decide) (fun _ => ?_) (fun c => absurd (by decide) c)
  refine lv_iconst (v := 1) S.1 S.2.1 dL_law_2656 (by decide) ?_
  refine va_forget (fun q hq => by rw [hN]; exact hG.2.1.2.2 q hq) ?_
  refine W.widen (k := 600002) (n := 7302232) (by decide) (by decide) ?_
  exact lw_ret (d0 := s.drawn) (Drawn.sameBut.refl _ _) S.1 S.2.1 hr hlocks dL_law_2657
theorem l17_5 {p : Program} {e : Env} {s : State} {m : MethodId} {below : List Frame} {meth : Method} {c : Code} {b : Nat} {xs : Nat → Int32} {H : Heap} {locs : List Loc} {ls : Array Slot} {n : Nat} {a3 a4 : Int32} (S : CallFix p m c cL_law 9 s #[.ref b] wsL_law "TreeDifferLaw") (hr : meth.sig.returnType = ret) (hlocks : meth.locks = false) (hst : l.stackTraces = false) (hX : va_X b 5 xs s s.heap) (hbl : b < s.heap.size ∧ b < N0) (hN : s.heap.size = N0) (hn : N0 + 231 ≤ n) (hx1 : xs 1 = 1) (hx2 : xs 2 = 0) (hx3 : xs 3 = a3) (hx4 : xs 4 = a4) (h0 : F N0 = some (.inr (9, [.ref (N0 + 1), .ref (N0 + 2), .ref (N0 + 11), .ref (N0 + 13), .ref (N0 + 63), .ref (N0 + 65), .ref (N0 + 85), .int (-1), .int (-1), .int 32]))) (h1 : F (N0 + 1) = some (.inl (cTr, 3, .inr (.inr (.inr (.inr (va_up (va_up (va_up (fun _ => none) 0 (some (N0 + 143))) 1 (some (N0 + 150))) 2 (some (N0 + 157))))))))) (h2 : F (N0 + 150) = some (.inr (7, [.ref (N0 + 151), .ref (N0 + 152), .ref (N0 + 153), .ref (N0 + 154), .ref (N0 + 155), .ref (N0 + 156), .int 1]))) (h3 : F (N0 + 164) = some (.inr (12, [.ref (N0 + 165), .int 0, .ref (N0 + 181), .int 0, .int 0, .int 0, .int (-1), .ref (ql 24), .ref (N0 + 182), .ref (N0 + 187), .ref (N0 + 208), .ref (N0 + 209), .ref (N0 + 210), .ref (N0 + 211), .ref (N0 + 212), .int 0, .ref (N0 + 213), .ref (N0 + 218), .ref (N0 + 223), .ref (N0 + 224), .ref (N0 + 225), .ref (N0 + 226), .ref (N0 + 227), .int 0, .int 0, .ref (N0 + 228), .null, .int (-1), .int 0, .int 0, .int 0]))) (h4 : F (N0 + 165) = some (.inl (cTm, 3, .inr (.inr (.inr (.inr (va_up (va_up (va_up (fun _ => none) 0 (some (N0 + 166))) 1 (some (N0 + 171))) 2 (some (N0 + 176))))))))) (h5 : F (N0 + 171) = some (.inr (11, [.ref (N0 + 172), .ref (N0 + 173), .ref (N0 + 174), .ref (N0 + 175), .int 1]))) (hG : fG N0 D vwCl (fty cI cC cL cD cII cTr cTm cIt cB) (fen ql) s F n H locs) (hl : lv_has ls 9 [(0, .ref b), (1, .ref N0), (2, .ref (N0 + 164)), (3, .ref (N0 + 229)), (4, .ref (N0 + 230)), (5, .int 0)]) : W p l e { frames := 2048, cells := 600002, slots := 7302232, locals := 84000 } s m #[.ref b] below meth c H locs 231 4980 (lw_Z below #[.ref b] s) (F0 m 1330 ls []) := by
  have lt_h0 := hG.1.lt h0
  have lt_h1 := hG.1.lt h1
  have lt_h2 := hG.1.lt h2
  have lt_h3 := hG.1.lt h3
  have lt_h4 := hG.1.lt h4
  have lt_h5 := hG.1.lt h5
  refine lv_aload_n S.1 S.2.1 dL_law_1330 rfl (lv_at hl 1 rfl) ?_
  refine lv_aload_n S.1 S.2.1 dL_law_1331 rfl (lv_at hl 0 rfl) ?_
  refine lv_iload S.1 S.2.1 dL_law_1332 (lv_at hl 5 rfl) ?_
  refine lv_iconst (v := 1) S.1 S.2.1 dL_law_1334 (by decide) ?_
  refine lv_iadd S.1 S.2.1 dL_law_1335 ?_
  refine fx_topi (y := 1) (by decide) ?_
  refine gx_sld (v := 1) S hG hX hbl (fin_l (by decide)) hx1 dL_law_1336 ?_
  refine lv_aload_n S.1 S.2.1 dL_law_1337 rfl (lv_at hl 0 rfl) ?_
  refine lv_iload S.1 S.2.1 dL_law_1338 (lv_at hl 5 rfl) ?_
  refine lv_iconst (v := 2) S.1 S.2.1 dL_law_1340 (by decide) ?_
  refine lv_iadd S.1 S.2.1 dL_law_1341 ?_
  refine fx_topi (y := 2) (by decide) ?_
  refine gx_sld (v := 0) S hG hX hbl (fin_l (by decide)) hx2 dL_law_1342 ?_
  refine lv_aload_n S.1 S.2.1 dL_law_1343 rfl (lv_at hl 3 rfl) ?_
  refine fx_cTi (As := [.ref N0, .int 1, .int 0, .ref (N0 + 229)]) (rest := []) S hG (k706_L_parent hst (by omega) h0 h1 h2) (vx_cwSW 4 S.2.2.2.2 gL_law_L_parent rfl rfl rfl (by decide +kernel) ⟨Nat.le_of_ble_eq_true rfl, Nat.le_of_ble_eq_true rfl⟩) rfl hl.1 rfl (Nat.le_of_ble_eq_true rfl) dL_law_1344 ⟨Nat.le_of_ble_eq_true rfl, Nat.le_of_ble_eq_true rfl⟩ (fun rv_u_1 u_1 H locs hp hG => ?_)
  obtain ⟨rfl, hu_1⟩ := hp
  refine W.widen (k := 232) (n := 4986) (by decide) (by decide) ?_
  refine lv_istore (lv' := [(6, .int 2), (0, .ref b), (1, .ref N0), (2, .ref (N0 + 164)), (3, .ref (N0 + 229)), (4, .ref (N0 + 230)), (5, .int 0)]) S.1 S.2.1 dL_law_1347 hl (by decide) rfl (fun ls hl => ?_)
  refine lv_aload_n S.1 S.2.1 dL_law_1349 rfl (lv_at hl 3 rfl) ?_
  refine lv_aload_n S.1 S.2.1 dL_law_1350 rfl (lv_at hl 1 rfl) ?_
  refine lv_iload S.1 S.2.1 dL_law_1351 (lv_at hl 6 rfl) ?_
  refine lv_iconst (v := 1) S.1 S.2.1 dL_law_1353 (by decide) ?_
  refine lv_iadd S.1 S.2.1 dL_law_1354 ?_
  refine fx_topi (y := 1) (by decide) ?_
  refine gx_sld (v := 1) S hG hX hbl (fin_l (by decide)) hx1 dL_law_1355 ?_
  refine lv_aload_n S.1 S.2.1 dL_law_1356 rfl (lv_at hl 1 rfl) ?_
  refine lv_iload S.1 S.2.1 dL_law_1357 (lv_at hl 6 rfl) ?_
  refine lv_iconst (v := 2) S.1 S.2.1 dL_law_1359 (by decide) ?_
  refine lv_iadd S.1 S.2.1 dL_law_1360 ?_
  refine fx_topi (y := 2) (by decide) ?_
  refine gx_sld (v := 0) S hG hX hbl (fin_l (by decide)) hx2 dL_law_1361 ?_
  refine fx_cVi (As := [.int 1, .int 0]) (rest := []) S hG (k707_X10_parent (by omega) h3 h4 h5) h3 rfl (cwV 2 S.2.2.2.2 gL_law_X10_parent rfl rfl rfl (by decide +kernel) ⟨Nat.le_of_ble_eq_true rfl, Nat.le_of_ble_eq_true rfl⟩) rfl hl.1 rfl (Nat.le_of_ble_eq_true rfl) dL_law_1362 ⟨Nat.le_of_ble_eq_true rfl, Nat.le_of_ble_eq_true rfl⟩ (fun rv_2 _ H locs hp hG => ?_)
  subst rv_2
  refine lv_istore (lv' := [(7, .int 0), (6, .int 2), (0, .ref b), (1, .ref N0), (2, .ref (N0 + 164)), (3, .ref (N0 + 229)), (4, .ref (N0 + 230)), (5, .int 0)]) S.1 S.2.1 dL_law_1365 hl (by decide) rfl (fun ls hl => ?_)
  refine lv_aload_n S.1 S.2.1 dL_law_1367 rfl (lv_at hl 4 rfl) ?_
  refine fx_cVi (As := []) (rest := []) S hG (k101_X10_thrown (by omega) fu_s) fu_s rfl (cwV 0 S.2.2.2.2 gL_law_X10_thrown rfl rfl rfl (by decide +kernel) ⟨Nat.le_of_ble_eq_true rfl, Nat.le_of_ble_eq_true rfl⟩) rfl hl.1 rfl (Nat.le_of_ble_eq_true rfl) dL_law_1368 ⟨Nat.le_of_ble_eq_true rfl, Nat.le_of_ble_eq_true rfl⟩ (fun rv_3 _ H locs hp hG => ?_)
  subst rv_3
  refine lv_iload S.1 S.2.1 dL_law_1371 (lv_at hl 1 rfl) ?_
  refine lv_icmp_eq (tgt := 1378) S.1 S.2.1 dL_law_1373 (by decide) (fun _ => ?_) (fun c => absurd (by decide) c)
  refine lv_iload S.1 S.2.1 dL_law_1378 (lv_at hl 1 rfl) ?_
  refine lv_if_ne (tgt := 1395) S.1 S.2.1 dL_law_1380 (by decide) (fun _ => ?_) (fun c => absurd c (by decide))
  refine lv_goto (tgt := 2650) S.1 S.2.1 dL_law_1395 (by decide) ?_
  refine lv_iinc (v := 5) (lv' := [(5, .int 5), (7, .int 0), (6, .int 2), (0, .ref b), (1, .ref N0), (2, .ref (N0 + 164)), (3, .ref (N0 + 229)), (4, .ref (N0 + 230))]) S.1 S.2.1 dL_law_2650 hl (k := 7) rfl (by decide) (by decide) rfl (fun ls hl => ?_)
  refine lv_goto (tgt := 28) S.1 S.2.1 dL_law_2653 (by decide) ?_
  refine lv_iload S.1 S.2.1 dL_law_28 (lv_at hl 0 rfl) ?_
  refine lv_aload_n S.1 S.2.1 dL_law_30 rfl (lv_at hl 3 rfl) ?_
  refine gx_slen (v := 5) S hG hX hbl rfl dL_law_31 ?_
  refine lv_iconst (v := 5) S.1 S.2.1 dL_law_32 (by decide) ?_
  refine lv_isub S.1 S.2.1 dL_law_33 ?_
  refine fx_topi (y := 0) (by decide) ?_
  refine lv_icmp_gt (tgt := 2656) S.1 S.2.1 dL_law_34 (by decide) (fun _ => ?_) (fun c => absurd (by decide) c)
  refine lv_iconst (v := 1) S.1 S.2.1 dL_law_2656 (by decide) ?_
  refine va_forget (fun q hq => by rw [hN]; exact hG.2.1.2.2 q hq) ?_
  refine W.widen (k := 600002) (n := 7302232) (by decide) (by decide) ?_
  exact lw_ret (d0 := s.drawn) (Drawn.sameBut.refl _ _) S.1 S.2.1 hr hlocks dL_law_2657
theorem l17_6 {p : Program} {e : Env} {s : State} {m : MethodId} {below : List Frame} {meth : Method} {c : Code} {b : Nat} {xs : Nat → Int32} {H : Heap} {locs : List Loc} {ls : Array Slot} {n : Nat} {a2 a3 a4 : Int32} (g_a2_ge_1 : 1 ≤ a2) (S : CallFix p m c cL_law 9 s #[.ref b] wsL_law "TreeDifferLaw") (hr : meth.sig.returnType = ret) (hlocks : meth.locks = false) (hst : l.stackTraces = false) (hX : va_X b 5 xs s s.heap) (hbl : b < s.heap.size ∧ b < N0) (hN : s.heap.size = N0) (hn : N0 + 231 ≤ n) (hx1 : xs 1 = 1) (hx2 : xs 2 = a2) (hx3 : xs 3 = a3) (hx4 : xs 4 = a4) (h0 : F N0 = some (.inr (9, [.ref (N0 + 1), .ref (N0 + 2), .ref (N0 + 11), .ref (N0 + 13), .ref (N0 + 63), .ref (N0 + 65), .ref (N0 + 85), .int (-1), .int (-1), .int 32]))) (h1 : F (N0 + 1) = some (.inl (cTr, 3, .inr (.inr (.inr (.inr (va_up (va_up (va_up (fun _ => none) 0 (some (N0 + 143))) 1 (some (N0 + 150))) 2 (some (N0 + 157))))))))) (h2 : F (N0 + 150) = some (.inr (7, [.ref (N0 + 151), .ref (N0 + 152), .ref (N0 + 153), .ref (N0 + 154), .ref (N0 + 155), .ref (N0 + 156), .int 1]))) (h3 : F (N0 + 164) = some (.inr (12, [.ref (N0 + 165), .int 0, .ref (N0 + 181), .int 0, .int 0, .int 0, .int (-1), .ref (ql 24), .ref (N0 + 182), .ref (N0 + 187), .ref (N0 + 208), .ref (N0 + 209), .ref (N0 + 210), .ref (N0 + 211), .ref (N0 + 212), .int 0, .ref (N0 + 213), .ref (N0 + 218), .ref (N0 + 223), .ref (N0 + 224), .ref (N0 + 225), .ref (N0 + 226), .ref (N0 + 227), .int 0, .int 0, .ref (N0 + 228), .null, .int (-1), .int 0, .int 0, .int 0]))) (h4 : F (N0 + 165) = some (.inl (cTm, 3, .inr (.inr (.inr (.inr (va_up (va_up (va_up (fun _ => none) 0 (some (N0 + 166))) 1 (some (N0 + 171))) 2 (some (N0 + 176))))))))) (h5 : F (N0 + 171) = some (.inr (11, [.ref (N0 + 172), .ref (N0 + 173), .ref (N0 + 174), .ref (N0 + 175), .int 1]))) (hG : fG N0 D vwCl (fty cI cC cL cD cII cTr cTm cIt cB) (fen ql) s F n H locs) (hl : lv_has ls 9 [(0, .ref b), (1, .ref N0), (2, .ref (N0 + 164)), (3, .ref (N0 + 229)), (4, .ref (N0 + 230)), (5, .int 0)]) : W p l e { frames := 2048, cells := 600002, slots := 7302232, locals := 84000 } s m #[.ref b] below meth c H locs 231 4980 (lw_Z below #[.ref b] s) (F0 m 1330 ls []) := by
  have lt_h0 := hG.1.lt h0
  have lt_h1 := hG.1.lt h1
  have lt_h2 := hG.1.lt h2
  have lt_h3 := hG.1.lt h3
  have lt_h4 := hG.1.lt h4
  have lt_h5 := hG.1.lt h5
  refine lv_aload_n S.1 S.2.1 dL_law_1330 rfl (lv_at hl 1 rfl) ?_
  refine lv_aload_n S.1 S.2.1 dL_law_1331 rfl (lv_at hl 0 rfl) ?_
  refine lv_iload S.1 S.2.1 dL_law_1332 (lv_at hl 5 rfl) ?_
  refine lv_iconst (v := 1) S.1 S.2.1 dL_law_1334 (by decide) ?_
  refine lv_iadd S.1 S.2.1 dL_law_1335 ?_
  refine fx_topi (y := 1) (by decide) ?_
  refine gx_sld (v := 1) S hG hX hbl (fin_l (by decide)) hx1 dL_law_1336 ?_
  refine lv_aload_n S.1 S.2.1 dL_law_1337 rfl (lv_at hl 0 rfl) ?_
  refine lv_iload S.1 S.2.1 dL_law_1338 (lv_at hl 5 rfl) ?_
  refine lv_iconst (v := 2) S.1 S.2.1 dL_law_1340 (by decide) ?_
  refine lv_iadd S.1 S.2.1 dL_law_1341 ?_
  refine fx_topi (y := 2) (by decide) ?_
  refine gx_sld (v := a2) S hG hX hbl (fin_l (by decide)) hx2 dL_law_1342 ?_
  refine lv_aload_n S.1 S.2.1 dL_law_1343 rfl (lv_at hl 3 rfl) ?_
  refine fx_cTi (As := [.ref N0, .int 1, .int a2, .ref (N0 + 229)]) (rest := []) S hG (k709_L_parent g_a2_ge_1 hst (by omega) h0 h1 h2) (vx_cwSW 4 S.2.2.2.2 gL_law_L_parent rfl rfl rfl (by decide +kernel) ⟨Nat.le_of_ble_eq_true rfl, Nat.le_of_ble_eq_true rfl⟩) rfl hl.1 rfl (Nat.le_of_ble_eq_true rfl) dL_law_1344 ⟨Nat.le_of_ble_eq_true rfl, Nat.le_of_ble_eq_true rfl⟩ (fun rv_u_1 u_1 H locs hp hG => ?_)
  obtain ⟨rfl, hu_1⟩ := hp
  refine W.widen (k := 232) (n := 4986) (by decide) (by decide) ?_
  refine lv_istore (lv' := [(6, .int 1), (0, .ref b), (1, .ref N0), (2, .ref (N0 + 164)), (3, .ref (N0 + 229)), (4, .ref (N0 + 230)), (5, .int 0)]) S.1 S.2.1 dL_law_1347 hl (by decide) rfl (fun ls hl => ?_)
  refine lv_aload_n S.1 S.2.1 dL_law_1349 rfl (lv_at hl 3 rfl) ?_
  refine lv_aload_n S.1 S.2.1 dL_law_1350 rfl (lv_at hl 1 rfl) ?_
  refine lv_iload S.1 S.2.1 dL_law_1351 (lv_at hl 6 rfl) ?_
  refine lv_iconst (v := 1) S.1 S.2.1 dL_law_1353 (by decide) ?_
  refine lv_iadd S.1 S.2.1 dL_law_1354 ?_
  refine fx_topi (y := 1) (by decide) ?_
  refine gx_sld (v := 1) S hG hX hbl (fin_l (by decide)) hx1 dL_law_1355 ?_
  refine lv_aload_n S.1 S.2.1 dL_law_1356 rfl (lv_at hl 1 rfl) ?_
  refine lv_iload S.1 S.2.1 dL_law_1357 (lv_at hl 6 rfl) ?_
  refine lv_iconst (v := 2) S.1 S.2.1 dL_law_1359 (by decide) ?_
  refine lv_iadd S.1 S.2.1 dL_law_1360 ?_
  refine fx_topi (y := 2) (by decide) ?_
  refine gx_sld (v := a2) S hG hX hbl (fin_l (by decide)) hx2 dL_law_1361 ?_
  refine fx_cVi (As := [.int 1, .int a2]) (rest := []) S hG (k710_X10_parent g_a2_ge_1 (by omega) h3 h4 h5) h3 rfl (cwV 2 S.2.2.2.2 gL_law_X10_parent rfl rfl rfl (by decide +kernel) ⟨Nat.le_of_ble_eq_true rfl, Nat.le_of_ble_eq_true rfl⟩) rfl hl.1 rfl (Nat.le_of_ble_eq_true rfl) dL_law_1362 ⟨Nat.le_of_ble_eq_true rfl, Nat.le_of_ble_eq_true rfl⟩ (fun rv_2 _ H locs hp hG => ?_)
  subst rv_2
  refine lv_istore (lv' := [(7, .int 0), (6, .int 1), (0, .ref b), (1, .ref N0), (2, .ref (N0 + 164)), (3, .ref (N0 + 229)), (4, .ref (N0 + 230)), (5, .int 0)]) S.1 S.2.1 dL_law_1365 hl (by decide) rfl (fun ls hl => ?_)
  refine lv_aload_n S.1 S.2.1 dL_law_1367 rfl (lv_at hl 4 rfl) ?_
  refine fx_cVi (As := []) (rest := []) S hG (k25_X10_thrown (by omega) fu_s) fu_s rfl (cwV 0 S.2.2.2.2 gL_law_X10_thrown rfl rfl rfl (by decide +kernel) ⟨Nat.le_of_ble_eq_true rfl, Nat.le_of_ble_eq_true rfl⟩) rfl hl.1 rfl (Nat.le_of_ble_eq_true rfl) dL_law_1368 ⟨Nat.le_of_ble_eq_true rfl, Nat.le_of_ble_eq_true rfl⟩ (fun rv_3 _ H locs hp hG => ?_)
  subst rv_3
  refine lv_iload S.1 S.2.1 dL_law_1371 (lv_at hl 1 rfl) ?_
  refine lv_icmp_eq (tgt := 1378) S.1 S.2.1 dL_law_1373 (by decide) (fun _ => ?_) (fun c => absurd (by decide) c)
  refine lv_iload S.1 S.2.1 dL_law_1378 (lv_at hl 1 rfl) ?_
  refine lv_if_ne (tgt := 1395) S.1 S.2.1 dL_law_1380 (by decide) (fun _ => ?_) (fun c => absurd c (by decide))
  refine lv_goto (tgt := 2650) S.1 S.2.1 dL_law_1395 (by decide) ?_
  refine lv_iinc (v := 5) (lv' := [(5, .int 5), (7, .int 0), (6, .int 1), (0, .ref b), (1, .ref N0), (2, .ref (N0 + 164)), (3, .ref (N0 + 229)), (4, .ref (N0 + 230))]) S.1 S.2.1 dL_law_2650 hl (k := 7) rfl (by decide) (by decide) rfl (fun ls hl => ?_)
  refine lv_goto (tgt := 28) S.1 S.2.1 dL_law_2653 (by decide) ?_
  refine lv_iload S.1 S.2.1 dL_law_28 (lv_at hl 0 rfl) ?_
  refine lv_aload_n S.1 S.2.1 dL_law_30 rfl (lv_at hl 3 rfl) ?_
  refine gx_slen (v := 5) S hG hX hbl rfl dL_law_31 ?_
  refine lv_iconst (v := 5) S.1 S.2.1 dL_law_32 (by decide) ?_
  refine lv_isub S.1 S.2.1 dL_law_33 ?_
  refine fx_topi (y := 0) (by decide) ?_
  refine lv_icmp_gt (tgt := 2656) S.1 S.2.1 dL_law_34 (by decide) (fun _ => ?_) (fun c => absurd (by decide) c)
  refine lv_iconst (v := 1) S.1 S.2.1 dL_law_2656 (by decide) ?_
  refine va_forget (fun q hq => by rw [hN]; exact hG.2.1.2.2 q hq) ?_
  refine W.widen (k := 600002) (n := 7302232) (by decide) (by decide) ?_
  exact lw_ret (d0 := s.drawn) (Drawn.sameBut.refl _ _) S.1 S.2.1 hr hlocks dL_law_2657
theorem l17_7 {p : Program} {e : Env} {s : State} {m : MethodId} {below : List Frame} {meth : Method} {c : Code} {b : Nat} {xs : Nat → Int32} {H : Heap} {locs : List Loc} {ls : Array Slot} {n : Nat} {a2 a3 a4 : Int32} (g_a2_le_m1 : a2 ≤ (-1)) (S : CallFix p m c cL_law 9 s #[.ref b] wsL_law "TreeDifferLaw") (hr : meth.sig.returnType = ret) (hlocks : meth.locks = false) (hst : l.stackTraces = false) (hX : va_X b 5 xs s s.heap) (hbl : b < s.heap.size ∧ b < N0) (hN : s.heap.size = N0) (hn : N0 + 231 ≤ n) (hx1 : xs 1 = 2) (hx2 : xs 2 = a2) (hx3 : xs 3 = a3) (hx4 : xs 4 = a4) (h0 : F N0 = some (.inr (9, [.ref (N0 + 1), .ref (N0 + 2), .ref (N0 + 11), .ref (N0 + 13), .ref (N0 + 63), .ref (N0 + 65), .ref (N0 + 85), .int (-1), .int (-1), .int 32]))) (h1 : F (N0 + 1) = some (.inl (cTr, 3, .inr (.inr (.inr (.inr (va_up (va_up (va_up (fun _ => none) 0 (some (N0 + 143))) 1 (some (N0 + 150))) 2 (some (N0 + 157))))))))) (h2 : F (N0 + 157) = some (.inr (7, [.ref (N0 + 158), .ref (N0 + 159), .ref (N0 + 160), .ref (N0 + 161), .ref (N0 + 162), .ref (N0 + 163), .int 1]))) (h3 : F (N0 + 164) = some (.inr (12, [.ref (N0 + 165), .int 0, .ref (N0 + 181), .int 0, .int 0, .int 0, .int (-1), .ref (ql 24), .ref (N0 + 182), .ref (N0 + 187), .ref (N0 + 208), .ref (N0 + 209), .ref (N0 + 210), .ref (N0 + 211), .ref (N0 + 212), .int 0, .ref (N0 + 213), .ref (N0 + 218), .ref (N0 + 223), .ref (N0 + 224), .ref (N0 + 225), .ref (N0 + 226), .ref (N0 + 227), .int 0, .int 0, .ref (N0 + 228), .null, .int (-1), .int 0, .int 0, .int 0]))) (h4 : F (N0 + 165) = some (.inl (cTm, 3, .inr (.inr (.inr (.inr (va_up (va_up (va_up (fun _ => none) 0 (some (N0 + 166))) 1 (some (N0 + 171))) 2 (some (N0 + 176))))))))) (h5 : F (N0 + 176) = some (.inr (11, [.ref (N0 + 177), .ref (N0 + 178), .ref (N0 + 179), .ref (N0 + 180), .int 1]))) (hG : fG N0 D vwCl (fty cI cC cL cD cII cTr cTm cIt cB) (fen ql) s F n H locs) (hl : lv_has ls 9 [(0, .ref b), (1, .ref N0), (2, .ref (N0 + 164)), (3, .ref (N0 + 229)), (4, .ref (N0 + 230)), (5, .int 0)]) : W p l e { frames := 2048, cells := 600002, slots := 7302232, locals := 84000 } s m #[.ref b] below meth c H locs 231 4980 (lw_Z below #[.ref b] s) (F0 m 1330 ls []) := by
  have lt_h0 := hG.1.lt h0
  have lt_h1 := hG.1.lt h1
  have lt_h2 := hG.1.lt h2
  have lt_h3 := hG.1.lt h3
  have lt_h4 := hG.1.lt h4
  have lt_h5 := hG.1.lt h5
  refine lv_aload_n S.1 S.2.1 dL_law_1330 rfl (lv_at hl 1 rfl) ?_
  refine lv_aload_n S.1 S.2.1 dL_law_1331 rfl (lv_at hl 0 rfl) ?_
  refine lv_iload S.1 S.2.1 dL_law_1332 (lv_at hl 5 rfl) ?_
  refine lv_iconst (v := 1) S.1 S.2.1 dL_law_1334 (by decide) ?_
  refine lv_iadd S.1 S.2.1 dL_law_1335 ?_
  refine fx_topi (y := 1) (by decide) ?_
  refine gx_sld (v := 2) S hG hX hbl (fin_l (by decide)) hx1 dL_law_1336 ?_
  refine lv_aload_n S.1 S.2.1 dL_law_1337 rfl (lv_at hl 0 rfl) ?_
  refine lv_iload S.1 S.2.1 dL_law_1338 (lv_at hl 5 rfl) ?_
  refine lv_iconst (v := 2) S.1 S.2.1 dL_law_1340 (by decide) ?_
  refine lv_iadd S.1 S.2.1 dL_law_1341 ?_
  refine fx_topi (y := 2) (by decide) ?_
  refine gx_sld (v := a2) S hG hX hbl (fin_l (by decide)) hx2 dL_law_1342 ?_
  refine lv_aload_n S.1 S.2.1 dL_law_1343 rfl (lv_at hl 3 rfl) ?_
  refine fx_cTi (As := [.ref N0, .int 2, .int a2, .ref (N0 + 229)]) (rest := []) S hG (k712_L_parent g_a2_le_m1 hst (by omega) h0 h1 h2) (vx_cwSW 4 S.2.2.2.2 gL_law_L_parent rfl rfl rfl (by decide +kernel) ⟨Nat.le_of_ble_eq_true rfl, Nat.le_of_ble_eq_true rfl⟩) rfl hl.1 rfl (Nat.le_of_ble_eq_true rfl) dL_law_1344 ⟨Nat.le_of_ble_eq_true rfl, Nat.le_of_ble_eq_true rfl⟩ (fun rv_u_1 u_1 H locs hp hG => ?_)
  obtain ⟨rfl, hu_1⟩ := hp
  refine W.widen (k := 232) (n := 4986) (by decide) (by decide) ?_
  refine lv_istore (lv' := [(6, .int 1), (0, .ref b), (1, .ref N0), (2, .ref (N0 + 164)), (3, .ref (N0 + 229)), (4, .ref (N0 + 230)), (5, .int 0)]) S.1 S.2.1 dL_law_1347 hl (by decide) rfl (fun ls hl => ?_)
  refine lv_aload_n S.1 S.2.1 dL_law_1349 rfl (lv_at hl 3 rfl) ?_
  refine lv_aload_n S.1 S.2.1 dL_law_1350 rfl (lv_at hl 1 rfl) ?_
  refine lv_iload S.1 S.2.1 dL_law_1351 (lv_at hl 6 rfl) ?_
  refine lv_iconst (v := 1) S.1 S.2.1 dL_law_1353 (by decide) ?_
  refine lv_iadd S.1 S.2.1 dL_law_1354 ?_
  refine fx_topi (y := 1) (by decide) ?_
  refine gx_sld (v := 2) S hG hX hbl (fin_l (by decide)) hx1 dL_law_1355 ?_
  refine lv_aload_n S.1 S.2.1 dL_law_1356 rfl (lv_at hl 1 rfl) ?_
  refine lv_iload S.1 S.2.1 dL_law_1357 (lv_at hl 6 rfl) ?_
  refine lv_iconst (v := 2) S.1 S.2.1 dL_law_1359 (by decide) ?_
  refine lv_iadd S.1 S.2.1 dL_law_1360 ?_
  refine fx_topi (y := 2) (by decide) ?_
  refine gx_sld (v := a2) S hG hX hbl (fin_l (by decide)) hx2 dL_law_1361 ?_
  refine fx_cVi (As := [.int 2, .int a2]) (rest := []) S hG (k713_X10_parent g_a2_le_m1 (by omega) h3 h4 h5) h3 rfl (cwV 2 S.2.2.2.2 gL_law_X10_parent rfl rfl rfl (by decide +kernel) ⟨Nat.le_of_ble_eq_true rfl, Nat.le_of_ble_eq_true rfl⟩) rfl hl.1 rfl (Nat.le_of_ble_eq_true rfl) dL_law_1362 ⟨Nat.le_of_ble_eq_true rfl, Nat.le_of_ble_eq_true rfl⟩ (fun rv_2 _ H locs hp hG => ?_)
  subst rv_2
  refine lv_istore (lv' := [(7, .int 0), (6, .int 1), (0, .ref b), (1, .ref N0), (2, .ref (N0 + 164)), (3, .ref (N0 + 229)), (4, .ref (N0 + 230)), (5, .int 0)]) S.1 S.2.1 dL_law_1365 hl (by decide) rfl (fun ls hl => ?_)
  refine lv_aload_n S.1 S.2.1 dL_law_1367 rfl (lv_at hl 4 rfl) ?_
  refine fx_cVi (As := []) (rest := []) S hG (k25_X10_thrown (by omega) fu_s) fu_s rfl (cwV 0 S.2.2.2.2 gL_law_X10_thrown rfl rfl rfl (by decide +kernel) ⟨Nat.le_of_ble_eq_true rfl, Nat.le_of_ble_eq_true rfl⟩) rfl hl.1 rfl (Nat.le_of_ble_eq_true rfl) dL_law_1368 ⟨Nat.le_of_ble_eq_true rfl, Nat.le_of_ble_eq_true rfl⟩ (fun rv_3 _ H locs hp hG => ?_)
  subst rv_3
  refine lv_iload S.1 S.2.1 dL_law_1371 (lv_at hl 1 rfl) ?_
  refine lv_icmp_eq (tgt := 1378) S.1 S.2.1 dL_law_1373 (by decide) (fun _ => ?_) (fun c => absurd (by decide) c)
  refine lv_iload S.1 S.2.1 dL_law_1378 (lv_at hl 1 rfl) ?_
  refine lv_if_ne (tgt := 1395) S.1 S.2.1 dL_law_1380 (by decide) (fun _ => ?_) (fun c => absurd c (by decide))
  refine lv_goto (tgt := 2650) S.1 S.2.1 dL_law_1395 (by decide) ?_
  refine lv_iinc (v := 5) (lv' := [(5, .int 5), (7, .int 0), (6, .int 1), (0, .ref b), (1, .ref N0), (2, .ref (N0 + 164)), (3, .ref (N0 + 229)), (4, .ref (N0 + 230))]) S.1 S.2.1 dL_law_2650 hl (k := 7) rfl (by decide) (by decide) rfl (fun ls hl => ?_)
  refine lv_goto (tgt := 28) S.1 S.2.1 dL_law_2653 (by decide) ?_
  refine lv_iload S.1 S.2.1 dL_law_28 (lv_at hl 0 rfl) ?_
  refine lv_aload_n S.1 S.2.1 dL_law_30 rfl (lv_at hl 3 rfl) ?_
  refine gx_slen (v := 5) S hG hX hbl rfl dL_law_31 ?_
  refine lv_iconst (v := 5) S.1 S.2.1 dL_law_32 (by decide) ?_
  refine lv_isub S.1 S.2.1 dL_law_33 ?_
  refine fx_topi (y := 0) (by decide) ?_
  refine lv_icmp_gt (tgt := 2656) S.1 S.2.1 dL_law_34 (by decide) (fun _ => ?_) (fun c => absurd (by decide) c)
  refine lv_iconst (v := 1) S.1 S.2.1 dL_law_2656 (by decide) ?_
  refine va_forget (fun q hq => by rw [hN]; exact hG.2.1.2.2 q hq) ?_
  refine W.widen (k := 600002) (n := 7302232) (by decide) (by decide) ?_
  exact lw_ret (d0 := s.drawn) (Drawn.sameBut.refl _ _) S.1 S.2.1 hr hlocks dL_law_2657
theorem l17_8 {p : Program} {e : Env} {s : State} {m : MethodId} {below : List Frame} {meth : Method} {c : Code} {b : Nat} {xs : Nat → Int32} {H : Heap} {locs : List Loc} {ls : Array Slot} {n : Nat} {a3 a4 : Int32} (S : CallFix p m c cL_law 9 s #[.ref b] wsL_law "TreeDifferLaw") (hr : meth.sig.returnType = ret) (hlocks : meth.locks = false) (hst : l.stackTraces = false) (hX : va_X b 5 xs s s.heap) (hbl : b < s.heap.size ∧ b < N0) (hN : s.heap.size = N0) (hn : N0 + 231 ≤ n) (hx1 : xs 1 = 2) (hx2 : xs 2 = 0) (hx3 : xs 3 = a3) (hx4 : xs 4 = a4) (h0 : F N0 = some (.inr (9, [.ref (N0 + 1), .ref (N0 + 2), .ref (N0 + 11), .ref (N0 + 13), .ref (N0 + 63), .ref (N0 + 65), .ref (N0 + 85), .int (-1), .int (-1), .int 32]))) (h1 : F (N0 + 1) = some (.inl (cTr, 3, .inr (.inr (.inr (.inr (va_up (va_up (va_up (fun _ => none) 0 (some (N0 + 143))) 1 (some (N0 + 150))) 2 (some (N0 + 157))))))))) (h2 : F (N0 + 157) = some (.inr (7, [.ref (N0 + 158), .ref (N0 + 159), .ref (N0 + 160), .ref (N0 + 161), .ref (N0 + 162), .ref (N0 + 163), .int 1]))) (h3 : F (N0 + 164) = some (.inr (12, [.ref (N0 + 165), .int 0, .ref (N0 + 181), .int 0, .int 0, .int 0, .int (-1), .ref (ql 24), .ref (N0 + 182), .ref (N0 + 187), .ref (N0 + 208), .ref (N0 + 209), .ref (N0 + 210), .ref (N0 + 211), .ref (N0 + 212), .int 0, .ref (N0 + 213), .ref (N0 + 218), .ref (N0 + 223), .ref (N0 + 224), .ref (N0 + 225), .ref (N0 + 226), .ref (N0 + 227), .int 0, .int 0, .ref (N0 + 228), .null, .int (-1), .int 0, .int 0, .int 0]))) (h4 : F (N0 + 165) = some (.inl (cTm, 3, .inr (.inr (.inr (.inr (va_up (va_up (va_up (fun _ => none) 0 (some (N0 + 166))) 1 (some (N0 + 171))) 2 (some (N0 + 176))))))))) (h5 : F (N0 + 176) = some (.inr (11, [.ref (N0 + 177), .ref (N0 + 178), .ref (N0 + 179), .ref (N0 + 180), .int 1]))) (hG : fG N0 D vwCl (fty cI cC cL cD cII cTr cTm cIt cB) (fen ql) s F n H locs) (hl : lv_has ls 9 [(0, .ref b), (1, .ref N0), (2, .ref (N0 + 164)), (3, .ref (N0 + 229)), (4, .ref (N0 + 230)), (5, .int 0)]) : W p l e { frames := 2048, cells := 600002, slots := 7302232, locals := 84000 } s m #[.ref b] below meth c H locs 231 4980 (lw_Z below #[.ref b] s) (F0 m 1330 ls []) := by
  have lt_h0 := hG.1.lt h0
  have lt_h1 := hG.1.lt h1
  have lt_h2 := hG.1.lt h2
  have lt_h3 := hG.1.lt h3
  have lt_h4 := hG.1.lt h4
  have lt_h5 := hG.1.lt h5
  refine lv_aload_n S.1 S.2.1 dL_law_1330 rfl (lv_at hl 1 rfl) ?_
  refine lv_aload_n S.1 S.2.1 dL_law_1331 rfl (lv_at hl 0 rfl) ?_
  refine lv_iload S.1 S.2.1 dL_law_1332 (lv_at hl 5 rfl) ?_
  refine lv_iconst (v := 1) S.1 S.2.1 dL_law_1334 (by decide) ?_
  refine lv_iadd S.1 S.2.1 dL_law_1335 ?_
  refine fx_topi (y := 1) (by decide) ?_
  refine gx_sld (v := 2) S hG hX hbl (fin_l (by decide)) hx1 dL_law_1336 ?_
  refine lv_aload_n S.1 S.2.1 dL_law_1337 rfl (lv_at hl 0 rfl) ?_
  refine lv_iload S.1 S.2.1 dL_law_1338 (lv_at hl 5 rfl) ?_
  refine lv_iconst (v := 2) S.1 S.2.1 dL_law_1340 (by decide) ?_
  refine lv_iadd S.1 S.2.1 dL_law_1341 ?_
  refine fx_topi (y := 2) (by decide) ?_
  refine gx_sld (v := 0) S hG hX hbl (fin_l (by decide)) hx2 dL_law_1342 ?_
  refine lv_aload_n S.1 S.2.1 dL_law_1343 rfl (lv_at hl 3 rfl) ?_
  refine fx_cTi (As := [.ref N0, .int 2, .int 0, .ref (N0 + 229)]) (rest := []) S hG (k715_L_parent hst (by omega) h0 h1 h2) (vx_cwSW 4 S.2.2.2.2 gL_law_L_parent rfl rfl rfl (by decide +kernel) ⟨Nat.le_of_ble_eq_true rfl, Nat.le_of_ble_eq_true rfl⟩) rfl hl.1 rfl (Nat.le_of_ble_eq_true rfl) dL_law_1344 ⟨Nat.le_of_ble_eq_true rfl, Nat.le_of_ble_eq_true rfl⟩ (fun rv_u_1 u_1 H locs hp hG => ?_)
  obtain ⟨rfl, hu_1⟩ := hp
  refine W.widen (k := 232) (n := 4986) (by decide) (by decide) ?_
  refine lv_istore (lv' := [(6, .int 2), (0, .ref b), (1, .ref N0), (2, .ref (N0 + 164)), (3, .ref (N0 + 229)), (4, .ref (N0 + 230)), (5, .int 0)]) S.1 S.2.1 dL_law_1347 hl (by decide) rfl (fun ls hl => ?_)
  refine lv_aload_n S.1 S.2.1 dL_law_1349 rfl (lv_at hl 3 rfl) ?_
  refine lv_aload_n S.1 S.2.1 dL_law_1350 rfl (lv_at hl 1 rfl) ?_
  refine lv_iload S.1 S.2.1 dL_law_1351 (lv_at hl 6 rfl) ?_
  refine lv_iconst (v := 1) S.1 S.2.1 dL_law_1353 (by decide) ?_
  refine lv_iadd S.1 S.2.1 dL_law_1354 ?_
  refine fx_topi (y := 1) (by decide) ?_
  refine gx_sld (v := 2) S hG hX hbl (fin_l (by decide)) hx1 dL_law_1355 ?_
  refine lv_aload_n S.1 S.2.1 dL_law_1356 rfl (lv_at hl 1 rfl) ?_
  refine lv_iload S.1 S.2.1 dL_law_1357 (lv_at hl 6 rfl) ?_
  refine lv_iconst (v := 2) S.1 S.2.1 dL_law_1359 (by decide) ?_
  refine lv_iadd S.1 S.2.1 dL_law_1360 ?_
  refine fx_topi (y := 2) (by decide) ?_
  refine gx_sld (v := 0) S hG hX hbl (fin_l (by decide)) hx2 dL_law_1361 ?_
  refine fx_cVi (As := [.int 2, .int 0]) (rest := []) S hG (k716_X10_parent (by omega) h3 h4 h5) h3 rfl (cwV 2 S.2.2.2.2 gL_law_X10_parent rfl rfl rfl (by decide +kernel) ⟨Nat.le_of_ble_eq_true rfl, Nat.le_of_ble_eq_true rfl⟩) rfl hl.1 rfl (Nat.le_of_ble_eq_true rfl) dL_law_1362 ⟨Nat.le_of_ble_eq_true rfl, Nat.le_of_ble_eq_true rfl⟩ (fun rv_2 _ H locs hp hG => ?_)
  subst rv_2
  refine lv_istore (lv' := [(7, .int 0), (6, .int 2), (0, .ref b), (1, .ref N0), (2, .ref (N0 + 164)), (3, .ref (N0 + 229)), (4, .ref (N0 + 230)), (5, .int 0)]) S.1 S.2.1 dL_law_1365 hl (by decide) rfl (fun ls hl => ?_)
  refine lv_aload_n S.1 S.2.1 dL_law_1367 rfl (lv_at hl 4 rfl) ?_
  refine fx_cVi (As := []) (rest := []) S hG (k101_X10_thrown (by omega) fu_s) fu_s rfl (cwV 0 S.2.2.2.2 gL_law_X10_thrown rfl rfl rfl (by decide +kernel) ⟨Nat.le_of_ble_eq_true rfl, Nat.le_of_ble_eq_true rfl⟩) rfl hl.1 rfl (Nat.le_of_ble_eq_true rfl) dL_law_1368 ⟨Nat.le_of_ble_eq_true rfl, Nat.le_of_ble_eq_true rfl⟩ (fun rv_3 _ H locs hp hG => ?_)
  subst rv_3
  refine lv_iload S.1 S.2.1 dL_law_1371 (lv_at hl 1 rfl) ?_
  refine lv_icmp_eq (tgt := 1378) S.1 S.2.1 dL_law_1373 (by decide) (fun _ => ?_) (fun c => absurd (by decide) c)
  refine lv_iload S.1 S.2.1 dL_law_1378 (lv_at hl 1 rfl) ?_
  refine lv_if_ne (tgt := 1395) S.1 S.2.1 dL_law_1380 (by decide) (fun _ => ?_) (fun c => absurd c (by decide))
  refine lv_goto (tgt := 2650) S.1 S.2.1 dL_law_1395 (by decide) ?_
  refine lv_iinc (v := 5) (lv' := [(5, .int 5), (7, .int 0), (6, .int 2), (0, .ref b), (1, .ref N0), (2, .ref (N0 + 164)), (3, .ref (N0 + 229)), (4, .ref (N0 + 230))]) S.1 S.2.1 dL_law_2650 hl (k := 7) rfl (by decide) (by decide) rfl (fun ls hl => ?_)
  refine lv_goto (tgt := 28) S.1 S.2.1 dL_law_2653 (by decide) ?_
  refine lv_iload S.1 S.2.1 dL_law_28 (lv_at hl 0 rfl) ?_
  refine lv_aload_n S.1 S.2.1 dL_law_30 rfl (lv_at hl 3 rfl) ?_
  refine gx_slen (v := 5) S hG hX hbl rfl dL_law_31 ?_
  refine lv_iconst (v := 5) S.1 S.2.1 dL_law_32 (by decide) ?_
  refine lv_isub S.1 S.2.1 dL_law_33 ?_
  refine fx_topi (y := 0) (by decide) ?_
  refine lv_icmp_gt (tgt := 2656) S.1 S.2.1 dL_law_34 (by decide) (fun _ => ?_) (fun c => absurd (by decide) c)
  refine lv_iconst (v := 1) S.1 S.2.1 dL_law_2656 (by decide) ?_
  refine va_forget (fun q hq => by rw [hN]; exact hG.2.1.2.2 q hq) ?_
  refine W.widen (k := 600002) (n := 7302232) (by decide) (by decide) ?_
  exact lw_ret (d0 := s.drawn) (Drawn.sameBut.refl _ _) S.1 S.2.1 hr hlocks dL_law_2657
theorem l17_9 {p : Program} {e : Env} {s : State} {m : MethodId} {below : List Frame} {meth : Method} {c : Code} {b : Nat} {xs : Nat → Int32} {H : Heap} {locs : List Loc} {ls : Array Slot} {n : Nat} {a2 a3 a4 : Int32} (g_a2_ge_1 : 1 ≤ a2) (S : CallFix p m c cL_law 9 s #[.ref b] wsL_law "TreeDifferLaw") (hr : meth.sig.returnType = ret) (hlocks : meth.locks = false) (hst : l.stackTraces = false) (hX : va_X b 5 xs s s.heap) (hbl : b < s.heap.size ∧ b < N0) (hN : s.heap.size = N0) (hn : N0 + 231 ≤ n) (hx1 : xs 1 = 2) (hx2 : xs 2 = a2) (hx3 : xs 3 = a3) (hx4 : xs 4 = a4) (h0 : F N0 = some (.inr (9, [.ref (N0 + 1), .ref (N0 + 2), .ref (N0 + 11), .ref (N0 + 13), .ref (N0 + 63), .ref (N0 + 65), .ref (N0 + 85), .int (-1), .int (-1), .int 32]))) (h1 : F (N0 + 1) = some (.inl (cTr, 3, .inr (.inr (.inr (.inr (va_up (va_up (va_up (fun _ => none) 0 (some (N0 + 143))) 1 (some (N0 + 150))) 2 (some (N0 + 157))))))))) (h2 : F (N0 + 157) = some (.inr (7, [.ref (N0 + 158), .ref (N0 + 159), .ref (N0 + 160), .ref (N0 + 161), .ref (N0 + 162), .ref (N0 + 163), .int 1]))) (h3 : F (N0 + 164) = some (.inr (12, [.ref (N0 + 165), .int 0, .ref (N0 + 181), .int 0, .int 0, .int 0, .int (-1), .ref (ql 24), .ref (N0 + 182), .ref (N0 + 187), .ref (N0 + 208), .ref (N0 + 209), .ref (N0 + 210), .ref (N0 + 211), .ref (N0 + 212), .int 0, .ref (N0 + 213), .ref (N0 + 218), .ref (N0 + 223), .ref (N0 + 224), .ref (N0 + 225), .ref (N0 + 226), .ref (N0 + 227), .int 0, .int 0, .ref (N0 + 228), .null, .int (-1), .int 0, .int 0, .int 0]))) (h4 : F (N0 + 165) = some (.inl (cTm, 3, .inr (.inr (.inr (.inr (va_up (va_up (va_up (fun _ => none) 0 (some (N0 + 166))) 1 (some (N0 + 171))) 2 (some (N0 + 176))))))))) (h5 : F (N0 + 176) = some (.inr (11, [.ref (N0 + 177), .ref (N0 + 178), .ref (N0 + 179), .ref (N0 + 180), .int 1]))) (hG : fG N0 D vwCl (fty cI cC cL cD cII cTr cTm cIt cB) (fen ql) s F n H locs) (hl : lv_has ls 9 [(0, .ref b), (1, .ref N0), (2, .ref (N0 + 164)), (3, .ref (N0 + 229)), (4, .ref (N0 + 230)), (5, .int 0)]) : W p l e { frames := 2048, cells := 600002, slots := 7302232, locals := 84000 } s m #[.ref b] below meth c H locs 231 4980 (lw_Z below #[.ref b] s) (F0 m 1330 ls []) := by
  have lt_h0 := hG.1.lt h0
  have lt_h1 := hG.1.lt h1
  have lt_h2 := hG.1.lt h2
  have lt_h3 := hG.1.lt h3
  have lt_h4 := hG.1.lt h4
  have lt_h5 := hG.1.lt h5
  refine lv_aload_n S.1 S.2.1 dL_law_1330 rfl (lv_at hl 1 rfl) ?_
  refine lv_aload_n S.1 S.2.1 dL_law_1331 rfl (lv_at hl 0 rfl) ?_
  refine lv_iload S.1 S.2.1 dL_law_1332 (lv_at hl 5 rfl) ?_
  refine lv_iconst (v := 1) S.1 S.2.1 dL_law_1334 (by decide) ?_
  refine lv_iadd S.1 S.2.1 dL_law_1335 ?_
  refine fx_topi (y := 1) (by decide) ?_
  refine gx_sld (v := 2) S hG hX hbl (fin_l (by decide)) hx1 dL_law_1336 ?_
  refine lv_aload_n S.1 S.2.1 dL_law_1337 rfl (lv_at hl 0 rfl) ?_
  refine lv_iload S.1 S.2.1 dL_law_1338 (lv_at hl 5 rfl) ?_
  refine lv_iconst (v := 2) S.1 S.2.1 dL_law_1340 (by decide) ?_
  refine lv_iadd S.1 S.2.1 dL_law_1341 ?_
  refine fx_topi (y := 2) (by decide) ?_
  refine gx_sld (v := a2) S hG hX hbl (fin_l (by decide)) hx2 dL_law_1342 ?_
  refine lv_aload_n S.1 S.2.1 dL_law_1343 rfl (lv_at hl 3 rfl) ?_
  refine fx_cTi (As := [.ref N0, .int 2, .int a2, .ref (N0 + 229)]) (rest := []) S hG (k718_L_parent g_a2_ge_1 hst (by omega) h0 h1 h2) (vx_cwSW 4 S.2.2.2.2 gL_law_L_parent rfl rfl rfl (by decide +kernel) ⟨Nat.le_of_ble_eq_true rfl, Nat.le_of_ble_eq_true rfl⟩) rfl hl.1 rfl (Nat.le_of_ble_eq_true rfl) dL_law_1344 ⟨Nat.le_of_ble_eq_true rfl, Nat.le_of_ble_eq_true rfl⟩ (fun rv_u_1 u_1 H locs hp hG => ?_)
  obtain ⟨rfl, hu_1⟩ := hp
  refine W.widen (k := 232) (n := 4986) (by decide) (by decide) ?_
  refine lv_istore (lv' := [(6, .int 1), (0, .ref b), (1, .ref N0), (2, .ref (N0 + 164)), (3, .ref (N0 + 229)), (4, .ref (N0 + 230)), (5, .int 0)]) S.1 S.2.1 dL_law_1347 hl (by decide) rfl (fun ls hl => ?_)
  refine lv_aload_n S.1 S.2.1 dL_law_1349 rfl (lv_at hl 3 rfl) ?_
  refine lv_aload_n S.1 S.2.1 dL_law_1350 rfl (lv_at hl 1 rfl) ?_
  refine lv_iload S.1 S.2.1 dL_law_1351 (lv_at hl 6 rfl) ?_
  refine lv_iconst (v := 1) S.1 S.2.1 dL_law_1353 (by decide) ?_
  refine lv_iadd S.1 S.2.1 dL_law_1354 ?_
  refine fx_topi (y := 1) (by decide) ?_
  refine gx_sld (v := 2) S hG hX hbl (fin_l (by decide)) hx1 dL_law_1355 ?_
  refine lv_aload_n S.1 S.2.1 dL_law_1356 rfl (lv_at hl 1 rfl) ?_
  refine lv_iload S.1 S.2.1 dL_law_1357 (lv_at hl 6 rfl) ?_
  refine lv_iconst (v := 2) S.1 S.2.1 dL_law_1359 (by decide) ?_
  refine lv_iadd S.1 S.2.1 dL_law_1360 ?_
  refine fx_topi (y := 2) (by decide) ?_
  refine gx_sld (v := a2) S hG hX hbl (fin_l (by decide)) hx2 dL_law_1361 ?_
  refine fx_cVi (As := [.int 2, .int a2]) (rest := []) S hG (k719_X10_parent g_a2_ge_1 (by omega) h3 h4 h5) h3 rfl (cwV 2 S.2.2.2.2 gL_law_X10_parent rfl rfl rfl (by decide +kernel) ⟨Nat.le_of_ble_eq_true rfl, Nat.le_of_ble_eq_true rfl⟩) rfl hl.1 rfl (Nat.le_of_ble_eq_true rfl) dL_law_1362 ⟨Nat.le_of_ble_eq_true rfl, Nat.le_of_ble_eq_true rfl⟩ (fun rv_2 _ H locs hp hG => ?_)
  subst rv_2
  refine lv_istore (lv' := [(7, .int 0), (6, .int 1), (0, .ref b), (1, .ref N0), (2, .ref (N0 + 164)), (3, .ref (N0 + 229)), (4, .ref (N0 + 230)), (5, .int 0)]) S.1 S.2.1 dL_law_1365 hl (by decide) rfl (fun ls hl => ?_)
  refine lv_aload_n S.1 S.2.1 dL_law_1367 rfl (lv_at hl 4 rfl) ?_
  refine fx_cVi (As := []) (rest := []) S hG (k25_X10_thrown (by omega) fu_s) fu_s rfl (cwV 0 S.2.2.2.2 gL_law_X10_thrown rfl rfl rfl (by decide +kernel) ⟨Nat.le_of_ble_eq_true rfl, Nat.le_of_ble_eq_true rfl⟩) rfl hl.1 rfl (Nat.le_of_ble_eq_true rfl) dL_law_1368 ⟨Nat.le_of_ble_eq_true rfl, Nat.le_of_ble_eq_true rfl⟩ (fun rv_3 _ H locs hp hG => ?_)
  subst rv_3
  refine lv_iload S.1 S.2.1 dL_law_1371 (lv_at hl 1 rfl) ?_
  refine lv_icmp_eq (tgt := 1378) S.1 S.2.1 dL_law_1373 (by decide) (fun _ => ?_) (fun c => absurd (by decide) c)
  refine lv_iload S.1 S.2.1 dL_law_1378 (lv_at hl 1 rfl) ?_
  refine lv_if_ne (tgt := 1395) S.1 S.2.1 dL_law_1380 (by decide) (fun _ => ?_) (fun c => absurd c (by decide))
  refine lv_goto (tgt := 2650) S.1 S.2.1 dL_law_1395 (by decide) ?_
  refine lv_iinc (v := 5) (lv' := [(5, .int 5), (7, .int 0), (6, .int 1), (0, .ref b), (1, .ref N0), (2, .ref (N0 + 164)), (3, .ref (N0 + 229)), (4, .ref (N0 + 230))]) S.1 S.2.1 dL_law_2650 hl (k := 7) rfl (by decide) (by decide) rfl (fun ls hl => ?_)
  refine lv_goto (tgt := 28) S.1 S.2.1 dL_law_2653 (by decide) ?_
  refine lv_iload S.1 S.2.1 dL_law_28 (lv_at hl 0 rfl) ?_
  refine lv_aload_n S.1 S.2.1 dL_law_30 rfl (lv_at hl 3 rfl) ?_
  refine gx_slen (v := 5) S hG hX hbl rfl dL_law_31 ?_
  refine lv_iconst (v := 5) S.1 S.2.1 dL_law_32 (by decide) ?_
  refine lv_isub S.1 S.2.1 dL_law_33 ?_
  refine fx_topi (y := 0) (by decide) ?_
  refine lv_icmp_gt (tgt := 2656) S.1 S.2.1 dL_law_34 (by decide) (fun _ => ?_) (fun c => absurd (by decide) c)
  refine lv_iconst (v := 1) S.1 S.2.1 dL_law_2656 (by decide) ?_
  refine va_forget (fun q hq => by rw [hN]; exact hG.2.1.2.2 q hq) ?_
  refine W.widen (k := 600002) (n := 7302232) (by decide) (by decide) ?_
  exact lw_ret (d0 := s.drawn) (Drawn.sameBut.refl _ _) S.1 S.2.1 hr hlocks dL_law_2657
theorem l17_10 {p : Program} {e : Env} {s : State} {m : MethodId} {below : List Frame} {meth : Method} {c : Code} {b : Nat} {xs : Nat → Int32} {H : Heap} {locs : List Loc} {ls : Array Slot} {n : Nat} {a1 a2 a3 a4 : Int32} (g_a1_ge_3 : 3 ≤ a1) (S : CallFix p m c cL_law 9 s #[.ref b] wsL_law "TreeDifferLaw") (hr : meth.sig.returnType = ret) (hlocks : meth.locks = false) (hst : l.stackTraces = false) (hX : va_X b 5 xs s s.heap) (hbl : b < s.heap.size ∧ b < N0) (hN : s.heap.size = N0) (hn : N0 + 231 ≤ n) (hx1 : xs 1 = a1) (hx2 : xs 2 = a2) (hx3 : xs 3 = a3) (hx4 : xs 4 = a4) (h0 : F N0 = some (.inr (9, [.ref (N0 + 1), .ref (N0 + 2), .ref (N0 + 11), .ref (N0 + 13), .ref (N0 + 63), .ref (N0 + 65), .ref (N0 + 85), .int (-1), .int (-1), .int 32]))) (h1 : F (N0 + 164) = some (.inr (12, [.ref (N0 + 165), .int 0, .ref (N0 + 181), .int 0, .int 0, .int 0, .int (-1), .ref (ql 24), .ref (N0 + 182), .ref (N0 + 187), .ref (N0 + 208), .ref (N0 + 209), .ref (N0 + 210), .ref (N0 + 211), .ref (N0 + 212), .int 0, .ref (N0 + 213), .ref (N0 + 218), .ref (N0 + 223), .ref (N0 + 224), .ref (N0 + 225), .ref (N0 + 226), .ref (N0 + 227), .int 0, .int 0, .ref (N0 + 228), .null, .int (-1), .int 0, .int 0, .int 0]))) (hG : fG N0 D vwCl (fty cI cC cL cD cII cTr cTm cIt cB) (fen ql) s F n H locs) (hl : lv_has ls 9 [(0, .ref b), (1, .ref N0), (2, .ref (N0 + 164)), (3, .ref (N0 + 229)), (4, .ref (N0 + 230)), (5, .int 0)]) : W p l e { frames := 2048, cells := 600002, slots := 7302232, locals := 84000 } s m #[.ref b] below meth c H locs 231 4980 (lw_Z below #[.ref b] s) (F0 m 1330 ls []) := by
  have lt_h0 := hG.1.lt h0
  have lt_h1 := hG.1.lt h1
  refine lv_aload_n S.1 S.2.1 dL_law_1330 rfl (lv_at hl 1 rfl) ?_
  refine lv_aload_n S.1 S.2.1 dL_law_1331 rfl (lv_at hl 0 rfl) ?_
  refine lv_iload S.1 S.2.1 dL_law_1332 (lv_at hl 5 rfl) ?_
  refine lv_iconst (v := 1) S.1 S.2.1 dL_law_1334 (by decide) ?_
  refine lv_iadd S.1 S.2.1 dL_law_1335 ?_
  refine fx_topi (y := 1) (by decide) ?_
  refine gx_sld (v := a1) S hG hX hbl (fin_l (by decide)) hx1 dL_law_1336 ?_
  refine lv_aload_n S.1 S.2.1 dL_law_1337 rfl (lv_at hl 0 rfl) ?_
  refine lv_iload S.1 S.2.1 dL_law_1338 (lv_at hl 5 rfl) ?_
  refine lv_iconst (v := 2) S.1 S.2.1 dL_law_1340 (by decide) ?_
  refine lv_iadd S.1 S.2.1 dL_law_1341 ?_
  refine fx_topi (y := 2) (by decide) ?_
  refine gx_sld (v := a2) S hG hX hbl (fin_l (by decide)) hx2 dL_law_1342 ?_
  refine lv_aload_n S.1 S.2.1 dL_law_1343 rfl (lv_at hl 3 rfl) ?_
  refine fx_cTi (As := [.ref N0, .int a1, .int a2, .ref (N0 + 229)]) (rest := []) S hG (k721_L_parent g_a1_ge_3 hst (by omega) h0) (vx_cwSW 4 S.2.2.2.2 gL_law_L_parent rfl rfl rfl (by decide +kernel) ⟨Nat.le_of_ble_eq_true rfl, Nat.le_of_ble_eq_true rfl⟩) rfl hl.1 rfl (Nat.le_of_ble_eq_true rfl) dL_law_1344 ⟨Nat.le_of_ble_eq_true rfl, Nat.le_of_ble_eq_true rfl⟩ (fun rv_u_1 u_1 H locs hp hG => ?_)
  obtain ⟨rfl, hu_1⟩ := hp
  refine W.widen (k := 232) (n := 4986) (by decide) (by decide) ?_
  refine lv_istore (lv' := [(6, .int 1), (0, .ref b), (1, .ref N0), (2, .ref (N0 + 164)), (3, .ref (N0 + 229)), (4, .ref (N0 + 230)), (5, .int 0)]) S.1 S.2.1 dL_law_1347 hl (by decide) rfl (fun ls hl => ?_)
  refine lv_aload_n S.1 S.2.1 dL_law_1349 rfl (lv_at hl 3 rfl) ?_
  refine lv_aload_n S.1 S.2.1 dL_law_1350 rfl (lv_at hl 1 rfl) ?_
  refine lv_iload S.1 S.2.1 dL_law_1351 (lv_at hl 6 rfl) ?_
  refine lv_iconst (v := 1) S.1 S.2.1 dL_law_1353 (by decide) ?_
  refine lv_iadd S.1 S.2.1 dL_law_1354 ?_
  refine fx_topi (y := 1) (by decide) ?_
  refine gx_sld (v := a1) S hG hX hbl (fin_l (by decide)) hx1 dL_law_1355 ?_
  refine lv_aload_n S.1 S.2.1 dL_law_1356 rfl (lv_at hl 1 rfl) ?_
  refine lv_iload S.1 S.2.1 dL_law_1357 (lv_at hl 6 rfl) ?_
  refine lv_iconst (v := 2) S.1 S.2.1 dL_law_1359 (by decide) ?_
  refine lv_iadd S.1 S.2.1 dL_law_1360 ?_
  refine fx_topi (y := 2) (by decide) ?_
  refine gx_sld (v := a2) S hG hX hbl (fin_l (by decide)) hx2 dL_law_1361 ?_
  refine fx_cVi (As := [.int a1, .int a2]) (rest := []) S hG (k722_X10_parent g_a1_ge_3 (by omega) h1) h1 rfl (cwV 2 S.2.2.2.2 gL_law_X10_parent rfl rfl rfl (by decide +kernel) ⟨Nat.le_of_ble_eq_true rfl, Nat.le_of_ble_eq_true rfl⟩) rfl hl.1 rfl (Nat.le_of_ble_eq_true rfl) dL_law_1362 ⟨Nat.le_of_ble_eq_true rfl, Nat.le_of_ble_eq_true rfl⟩ (fun rv_2 _ H locs hp hG => ?_)
  subst rv_2
  refine lv_istore (lv' := [(7, .int 0), (6, .int 1), (0, .ref b), (1, .ref N0), (2, .ref (N0 + 164)), (3, .ref (N0 + 229)), (4, .ref (N0 + 230)), (5, .int 0)]) S.1 S.2.1 dL_law_1365 hl (by decide) rfl (fun ls hl => ?_)
  refine lv_aload_n S.1 S.2.1 dL_law_1367 rfl (lv_at hl 4 rfl) ?_
  refine fx_cVi (As := []) (rest := []) S hG (k25_X10_thrown (by omega) fu_s) fu_s rfl (cwV 0 S.2.2.2.2 gL_law_X10_thrown rfl rfl rfl (by decide +kernel) ⟨Nat.le_of_ble_eq_true rfl, Nat.le_of_ble_eq_true rfl⟩) rfl hl.1 rfl (Nat.le_of_ble_eq_true rfl) dL_law_1368 ⟨Nat.le_of_ble_eq_true rfl, Nat.le_of_ble_eq_true rfl⟩ (fun rv_3 _ H locs hp hG => ?_)
  subst rv_3
  refine lv_iload S.1 S.2.1 dL_law_1371 (lv_at hl 1 rfl) ?_
  refine lv_icmp_eq (tgt := 1378) S.1 S.2.1 dL_law_1373 (by decide) (fun _ => ?_) (fun c => absurd (by decide) c)
  refine lv_iload S.1 S.2.1 dL_law_1378 (lv_at hl 1 rfl) ?_
  refine lv_if_ne (tgt := 1395) S.1 S.2.1 dL_law_1380 (by decide) (fun _ => ?_) (fun c => absurd c (by decide))
  refine lv_goto (tgt := 2650) S.1 S.2.1 dL_law_1395 (by decide) ?_
  refine lv_iinc (v := 5) (lv' := [(5, .int 5), (7, .int 0), (6, .int 1), (0, .ref b), (1, .ref N0), (2, .ref (N0 + 164)), (3, .ref (N0 + 229)), (4, .ref (N0 + 230))]) S.1 S.2.1 dL_law_2650 hl (k := 7) rfl (by decide) (by decide) rfl (fun ls hl => ?_)
  refine lv_goto (tgt := 28) S.1 S.2.1 dL_law_2653 (by decide) ?_
  refine lv_iload S.1 S.2.1 dL_law_28 (lv_at hl 0 rfl) ?_
  refine lv_aload_n S.1 S.2.1 dL_law_30 rfl (lv_at hl 3 rfl) ?_
  refine gx_slen (v := 5) S hG hX hbl rfl dL_law_31 ?_
  refine lv_iconst (v := 5) S.1 S.2.1 dL_law_32 (by decide) ?_
  refine lv_isub S.1 S.2.1 dL_law_33 ?_
  refine fx_topi (y := 0) (by decide) ?_
  refine lv_icmp_gt (tgt := 2656) S.1 S.2.1 dL_law_34 (by decide) (fun _ => ?_) (fun c => absurd (by decide) c)
  refine lv_iconst (v := 1) S.1 S.2.1 dL_law_2656 (by decide) ?_
  refine va_forget (fun q hq => by rw [hN]; exact hG.2.1.2.2 q hq) ?_
  refine W.widen (k := 600002) (n := 7302232) (by decide) (by decide) ?_
  exact lw_ret (d0 := s.drawn) (Drawn.sameBut.refl _ _) S.1 S.2.1 hr hlocks dL_law_2657
theorem case_17 {p : Program} {e : Env} {s : State} {m : MethodId} {below : List Frame} {meth : Method} {c : Code} {b : Nat} {xs : Nat → Int32} {H : Heap} {locs : List Loc} {ls : Array Slot} {n : Nat} {a1 a2 a3 a4 : Int32} (S : CallFix p m c cL_law 9 s #[.ref b] wsL_law "TreeDifferLaw") (hr : meth.sig.returnType = ret) (hlocks : meth.locks = false) (hst : l.stackTraces = false) (hX : va_X b 5 xs s s.heap) (hbl : b < s.heap.size ∧ b < N0) (hN : s.heap.size = N0) (hn : N0 + 231 ≤ n) (hx1 : xs 1 = a1) (hx2 : xs 2 = a2) (hx3 : xs 3 = a3) (hx4 : xs 4 = a4) (hL : ∀ (i : Nat) (q : Nat × va_E), (lneed N0 cI cC cL cD cII cTr cTm cIt cB ql)[i]? = some q → F (N0 + q.1) = some q.2) (hG : fG N0 D vwCl (fty cI cC cL cD cII cTr cTm cIt cB) (fen ql) s F n H locs) (hl : lv_has ls 9 [(0, .ref b), (1, .ref N0), (2, .ref (N0 + 164)), (3, .ref (N0 + 229)), (4, .ref (N0 + 230)), (5, .int 0)]) : W p l e { frames := 2048, cells := 600002, slots := 7302232, locals := 84000 } s m #[.ref b] below meth c H locs 231 4980 (lw_Z below #[.ref b] s) (F0 m 1330 ls []) := by
  have hn1 := pk_nc a1
  have hf1 := pk_fc a1
  have hv1 := pk_vc a1
  obtain ⟨g_c1_ge_0, g_c1_le_65535⟩ := fl_c0 a1
  generalize hc1 : (a1.toUInt32 % 65536).toInt32 = c1 at *
  have hn2 := pk_nc a2
  have hf2 := pk_fc a2
  have hv2 := pk_vc a2
  obtain ⟨g_c2_ge_0, g_c2_le_65535⟩ := fl_c0 a2
  generalize hc2 : (a2.toUInt32 % 65536).toInt32 = c2 at *
  have hn3 := pk_nc a3
  have hf3 := pk_fc a3
  have hv3 := pk_vc a3
  obtain ⟨g_c3_ge_0, g_c3_le_65535⟩ := fl_c0 a3
  generalize hc3 : (a3.toUInt32 % 65536).toInt32 = c3 at *
  have hn4 := pk_nc a4
  have hf4 := pk_fc a4
  have hv4 := pk_vc a4
  obtain ⟨g_c4_ge_0, g_c4_le_65535⟩ := fl_c0 a4
  generalize hc4 : (a4.toUInt32 % 65536).toInt32 = c4 at *
  rcases fl_cut a1 0 (-1) (by decide) with g_a1_le_m1 | g_a1_ge_0
  · skip
    exact l17_0 g_a1_le_m1 S hr hlocks hst hX hbl hN hn hx1 hx2 hx3 hx4 (hL 0 _ rfl) (hL 4 _ rfl) hG hl
  · skip
    rcases fl_cut a1 3 2 (by decide) with g_a1_le_2 | g_a1_ge_3
    · skip
      rcases fl_cut a1 1 0 (by decide) with g_a1_le_0 | g_a1_ge_1
      · skip
        obtain rfl : a1 = 0 := Int32.le_antisymm g_a1_le_0 g_a1_ge_0
        rcases fl_cut a2 0 (-1) (by decide) with g_a2_le_m1 | g_a2_ge_0
        · skip
          exact l17_1 g_a2_le_m1 S hr hlocks hst hX hbl hN hn hx1 hx2 hx3 hx4 (hL 0 _ rfl) (hL 6 _ rfl) (hL 10 _ rfl) (hL 4 _ rfl) (hL 11 _ rfl) (hL 12 _ rfl) hG hl
        · skip
          rcases fl_cut a2 1 0 (by decide) with g_a2_le_0 | g_a2_ge_1
          · skip
            obtain rfl : a2 = 0 := Int32.le_antisymm g_a2_le_0 g_a2_ge_0
            exact l17_2 S hr hlocks hst hX hbl hN hn hx1 hx2 hx3 hx4 (hL 0 _ rfl) (hL 6 _ rfl) (hL 10 _ rfl) (hL 4 _ rfl) (hL 11 _ rfl) (hL 12 _ rfl) hG hl
          · skip
            exact l17_3 g_a2_ge_1 S hr hlocks hst hX hbl hN hn hx1 hx2 hx3 hx4 (hL 0 _ rfl) (hL 6 _ rfl) (hL 10 _ rfl) (hL 4 _ rfl) (hL 11 _ rfl) (hL 12 _ rfl) hG hl
      · skip
        rcases fl_cut a1 2 1 (by decide) with g_a1_le_1 | g_a1_ge_2
        · skip
          obtain rfl : a1 = 1 := Int32.le_antisymm g_a1_le_1 g_a1_ge_1
          rcases fl_cut a2 0 (-1) (by decide) with g_a2_le_m1 | g_a2_ge_0
          · skip
            exact l17_4 g_a2_le_m1 S hr hlocks hst hX hbl hN hn hx1 hx2 hx3 hx4 (hL 0 _ rfl) (hL 6 _ rfl) (hL 22 _ rfl) (hL 4 _ rfl) (hL 11 _ rfl) (hL 23 _ rfl) hG hl
          · skip
            rcases fl_cut a2 1 0 (by decide) with g_a2_le_0 | g_a2_ge_1
            · skip
              obtain rfl : a2 = 0 := Int32.le_antisymm g_a2_le_0 g_a2_ge_0
              exact l17_5 S hr hlocks hst hX hbl hN hn hx1 hx2 hx3 hx4 (hL 0 _ rfl) (hL 6 _ rfl) (hL 22 _ rfl) (hL 4 _ rfl) (hL 11 _ rfl) (hL 23 _ rfl) hG hl
            · skip
              exact l17_6 g_a2_ge_1 S hr hlocks hst hX hbl hN hn hx1 hx2 hx3 hx4 (hL 0 _ rfl) (hL 6 _ rfl) (hL 22 _ rfl) (hL 4 _ rfl) (hL 11 _ rfl) (hL 23 _ rfl) hG hl
        · skip
          obtain rfl : a1 = 2 := Int32.le_antisymm g_a1_le_2 g_a1_ge_2
          rcases fl_cut a2 0 (-1) (by decide) with g_a2_le_m1 | g_a2_ge_0
          · skip
            exact l17_7 g_a2_le_m1 S hr hlocks hst hX hbl hN hn hx1 hx2 hx3 hx4 (hL 0 _ rfl) (hL 6 _ rfl) (hL 33 _ rfl) (hL 4 _ rfl) (hL 11 _ rfl) (hL 34 _ rfl) hG hl
          · skip
            rcases fl_cut a2 1 0 (by decide) with g_a2_le_0 | g_a2_ge_1
            · skip
              obtain rfl : a2 = 0 := Int32.le_antisymm g_a2_le_0 g_a2_ge_0
              exact l17_8 S hr hlocks hst hX hbl hN hn hx1 hx2 hx3 hx4 (hL 0 _ rfl) (hL 6 _ rfl) (hL 33 _ rfl) (hL 4 _ rfl) (hL 11 _ rfl) (hL 34 _ rfl) hG hl
            · skip
              exact l17_9 g_a2_ge_1 S hr hlocks hst hX hbl hN hn hx1 hx2 hx3 hx4 (hL 0 _ rfl) (hL 6 _ rfl) (hL 33 _ rfl) (hL 4 _ rfl) (hL 11 _ rfl) (hL 34 _ rfl) hG hl
    · skip
      exact l17_10 g_a1_ge_3 S hr hlocks hst hX hbl hN hn hx1 hx2 hx3 hx4 (hL 0 _ rfl) (hL 4 _ rfl) hG hl
