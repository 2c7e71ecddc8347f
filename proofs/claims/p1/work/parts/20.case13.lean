theorem dX7_label_0 : decode cX7_label 0 = .ok (.aload_n 0, 1) := by decide +kernel
theorem dX7_label_1 : decode cX7_label 1 = .ok (.iload_n 1, 1) := by decide +kernel
theorem dX7_label_2 : decode cX7_label 2 = .ok (.iload_n 2, 1) := by decide +kernel
set_option maxRecDepth 20000 in
theorem ggX7_label_X7_treeWith : GoodIn wsX7_label wsX7_treeWith := goodIn_ca (goodIn_r _ [6, 7, 8, 9, 10, 11, 5, 12, 13, 14, 15, 16, 17, 18, 19, 27, 28, 29, 30, 31, 32, 33, 34, 35, 36, 20, 21, 22, 23, 24, 25, 26] (by decide +kernel) (by decide +kernel)) (goodIn_sub (fun _ h => List.mem_cons_of_mem _ (List.mem_append_right _ h)) (by decide +kernel))
set_option maxRecDepth 20000 in
theorem gX7_label_X7_treeWith : GoodIn wsX7_label (wsV RX7 146 RX7 yX7_treeWith wsX7_treeWith) := goodIn_app (goodIn_of _ (by decide +kernel)) ggX7_label_X7_treeWith
theorem dX7_label_3 : decode cX7_label 3 = .ok (.invokevirtual 146, 3) := by decide +kernel
theorem dL_label_0 : decode cL_label 0 = .ok (.aload_n 3, 1) := by decide +kernel
theorem dL_label_1 : decode cL_label 1 = .ok (.iconst 0, 1) := by decide +kernel
theorem dL_label_2 : decode cL_label 2 = .ok (.aload_n 0, 1) := by decide +kernel
theorem dL_label_3 : decode cL_label 3 = .ok (.iload_n 1, 1) := by decide +kernel
theorem dL_label_4 : decode cL_label 4 = .ok (.iload_n 2, 1) := by decide +kernel
set_option maxRecDepth 20000 in
theorem ggL_label_X7_label : GoodIn wsL_label wsX7_label := goodIn_ca (goodIn_r _ [6, 7, 8, 9, 10, 5, 11, 12, 13, 14, 15, 16, 17, 18, 19, 20, 21, 22, 23, 24, 25, 26, 27, 28, 29, 30, 31, 32, 33, 34, 35, 36, 37, 38, 39, 40, 41] (by decide +kernel) (by decide +kernel)) (goodIn_sub (fun _ h => List.mem_cons_of_mem _ (List.mem_append_right _ h)) (by decide +kernel))
set_option maxRecDepth 20000 in
theorem gL_label_X7_label : GoodIn wsL_label (wsV RL 66 RX7 yX7_label wsX7_label) := goodIn_app (goodIn_of _ (by decide +kernel)) ggL_label_X7_label
theorem dL_label_5 : decode cL_label 5 = .ok (.invokevirtual 66, 3) := by decide +kernel
theorem dL_label_13 : decode cL_label 13 = .ok (.astore 4, 2) := by decide +kernel
theorem dL_label_15 : decode cL_label 15 = .ok (.iconst 1, 1) := by decide +kernel
theorem dL_label_16 : decode cL_label 16 = .ok (.ireturn, 1) := by decide +kernel
theorem dX10_label_0 : decode cX10_label 0 = .ok (.aload_n 0, 1) := by decide +kernel
theorem dX10_label_1 : decode cX10_label 1 = .ok (.iload_n 1, 1) := by decide +kernel
theorem dX10_label_2 : decode cX10_label 2 = .ok (.iload_n 2, 1) := by decide +kernel
set_option maxRecDepth 20000 in
theorem ggX10_label_X10_isNowhere : GoodIn wsX10_label wsX10_isNowhere := goodIn_r _ [6, 7, 8, 9, 10, 5, 11, 1, 12, 13, 14, 15, 16, 17, 18, 19, 20, 21, 22, 23, 24, 25, 26, 27, 28, 29, 30, 31, 32, 33, 34, 35, 36, 37, 38, 39, 40, 41, 42, 43, 44, 45, 46, 47, 48, 49, 50, 51, 52, 53] (by decide +kernel) (by decide +kernel)
set_option maxRecDepth 20000 in
theorem gX10_label_X10_isNowhere : GoodIn wsX10_label (wsV RX10 202 RX10 yX10_isNowhere wsX10_isNowhere) := goodIn_app (goodIn_of _ (by decide +kernel)) ggX10_label_X10_isNowhere
theorem dX10_label_3 : decode cX10_label 3 = .ok (.invokevirtual 202, 3) := by decide +kernel
theorem dX10_label_6 : decode cX10_label 6 = .ok (.ifCond .eq 7, 3) := by decide +kernel
theorem dX10_label_9 : decode cX10_label 9 = .ok (.iconst 0, 1) := by decide +kernel
theorem dX10_label_10 : decode cX10_label 10 = .ok (.goto 15, 3) := by decide +kernel
theorem dX10_label_25 : decode cX10_label 25 = .ok (.ireturn, 1) := by decide +kernel
theorem dX7_label_6 : decode cX7_label 6 = .ok (.getfield 180, 3) := by decide +kernel
theorem dX7_label_9 : decode cX7_label 9 = .ok (.iload_n 2, 1) := by decide +kernel
theorem dX7_label_10 : decode cX7_label 10 = .ok (.caload, 1) := by decide +kernel
theorem dX7_label_11 : decode cX7_label 11 = .ok (.ireturn, 1) := by decide +kernel
theorem dL_label_8 : decode cL_label 8 = .ok (.i2l, 1) := by decide +kernel
theorem dL_label_9 : decode cL_label 9 = .ok (.lastore, 1) := by decide +kernel
theorem dL_label_10 : decode cL_label 10 = .ok (.goto 7, 3) := by decide +kernel
theorem dL_label_17 : decode cL_label 17 = .ok (.iconst 0, 1) := by decide +kernel
theorem dL_label_18 : decode cL_label 18 = .ok (.ireturn, 1) := by decide +kernel
theorem dX10_label_13 : decode cX10_label 13 = .ok (.aload_n 0, 1) := by decide +kernel
theorem dX10_label_14 : decode cX10_label 14 = .ok (.getfield 27, 3) := by decide +kernel
theorem dX10_label_17 : decode cX10_label 17 = .ok (.iload_n 1, 1) := by decide +kernel
theorem dX10_label_18 : decode cX10_label 18 = .ok (.aaload, 1) := by decide +kernel
theorem dX10_label_19 : decode cX10_label 19 = .ok (.getfield 11, 3) := by decide +kernel
theorem dX10_label_22 : decode cX10_label 22 = .ok (.iload_n 2, 1) := by decide +kernel
theorem dX10_label_23 : decode cX10_label 23 = .ok (.iaload, 1) := by decide +kernel
theorem dX10_label_24 : decode cX10_label 24 = .ok (.i2c, 1) := by decide +kernel
theorem dL_law_1058 : decode cL_law 1058 = .ok (.aload_n 1, 1) := by decide +kernel
theorem dL_law_1059 : decode cL_law 1059 = .ok (.aload_n 0, 1) := by decide +kernel
theorem dL_law_1060 : decode cL_law 1060 = .ok (.iload 5, 2) := by decide +kernel
theorem dL_law_1062 : decode cL_law 1062 = .ok (.iconst 1, 1) := by decide +kernel
theorem dL_law_1063 : decode cL_law 1063 = .ok (.iadd, 1) := by decide +kernel
theorem dL_law_1064 : decode cL_law 1064 = .ok (.iaload, 1) := by decide +kernel
theorem dL_law_1065 : decode cL_law 1065 = .ok (.aload_n 0, 1) := by decide +kernel
theorem dL_law_1066 : decode cL_law 1066 = .ok (.iload 5, 2) := by decide +kernel
theorem dL_law_1068 : decode cL_law 1068 = .ok (.iconst 2, 1) := by decide +kernel
theorem dL_law_1069 : decode cL_law 1069 = .ok (.iadd, 1) := by decide +kernel
theorem dL_law_1070 : decode cL_law 1070 = .ok (.iaload, 1) := by decide +kernel
theorem dL_law_1071 : decode cL_law 1071 = .ok (.aload_n 3, 1) := by decide +kernel
set_option maxRecDepth 20000 in
theorem ggL_law_L_label : GoodIn wsL_law wsL_label := goodIn_ca (goodIn_r _ [790, 185, 791, 792, 793, 2, 794, 721, 637, 638, 639, 640, 200, 201, 196, 197, 198, 199, 15, 641, 642, 643, 44, 644, 63, 1530, 1531, 1532, 1533, 1534, 1535, 1536, 1458, 1459, 1460, 1461, 1462, 1463, 1464, 1465, 1466, 1467] (by decide +kernel) (by decide +kernel)) (goodIn_sub (fun _ h => List.mem_append_left _ (List.mem_append_left _ (List.mem_append_right _ h))) (by decide +kernel))
set_option maxRecDepth 20000 in
theorem gL_law_L_label : GoodIn wsL_law (va_wsS RL 201 yL_label wsL_label) := goodIn_app (goodIn_of _ (by decide +kernel)) ggL_law_L_label
theorem dL_law_1072 : decode cL_law 1072 = .ok (.invokestatic 201, 3) := by decide +kernel
theorem dL_law_1075 : decode cL_law 1075 = .ok (.istore 6, 2) := by decide +kernel
theorem dL_law_1077 : decode cL_law 1077 = .ok (.aload_n 2, 1) := by decide +kernel
theorem dL_law_1078 : decode cL_law 1078 = .ok (.aload_n 0, 1) := by decide +kernel
theorem dL_law_1079 : decode cL_law 1079 = .ok (.iload 5, 2) := by decide +kernel
theorem dL_law_1081 : decode cL_law 1081 = .ok (.iconst 1, 1) := by decide +kernel
theorem dL_law_1082 : decode cL_law 1082 = .ok (.iadd, 1) := by decide +kernel
theorem dL_law_1083 : decode cL_law 1083 = .ok (.iaload, 1) := by decide +kernel
theorem dL_law_1084 : decode cL_law 1084 = .ok (.aload_n 0, 1) := by decide +kernel
theorem dL_law_1085 : decode cL_law 1085 = .ok (.iload 5, 2) := by decide +kernel
theorem dL_law_1087 : decode cL_law 1087 = .ok (.iconst 2, 1) := by decide +kernel
theorem dL_law_1088 : decode cL_law 1088 = .ok (.iadd, 1) := by decide +kernel
theorem dL_law_1089 : decode cL_law 1089 = .ok (.iaload, 1) := by decide +kernel
set_option maxRecDepth 20000 in
theorem ggL_law_X10_label : GoodIn wsL_law wsX10_label := goodIn_r _ [798, 114, 679, 680, 681, 5, 682, 172, 683, 684, 685, 686, 259, 260, 261, 262, 263, 264, 1468, 1469, 1470, 1471, 1472, 1473, 1474, 1475, 1476, 1477, 1478, 1479, 1480, 1481, 1482, 1483, 1484, 1485, 1486, 1487, 1488, 1489, 1490, 1491, 1492, 1493, 1494, 1495, 1496, 1497, 1498, 1537, 1538, 1539, 1540, 1541] (by decide +kernel) (by decide +kernel)
set_option maxRecDepth 20000 in
theorem gL_law_X10_label : GoodIn wsL_law (wsV RL 203 RX10 yX10_label wsX10_label) := goodIn_app (goodIn_of _ (by decide +kernel)) ggL_law_X10_label
theorem dL_law_1090 : decode cL_law 1090 = .ok (.invokevirtual 203, 3) := by decide +kernel
theorem dL_law_1093 : decode cL_law 1093 = .ok (.istore 7, 2) := by decide +kernel
theorem dL_law_1095 : decode cL_law 1095 = .ok (.aload_n 2, 1) := by decide +kernel
theorem dL_law_1096 : decode cL_law 1096 = .ok (.invokevirtual 156, 3) := by decide +kernel
theorem dL_law_1099 : decode cL_law 1099 = .ok (.iload 6, 2) := by decide +kernel
theorem dL_law_1101 : decode cL_law 1101 = .ok (.if_icmp .eq 5, 3) := by decide +kernel
theorem dL_law_1106 : decode cL_law 1106 = .ok (.iload 6, 2) := by decide +kernel
theorem dL_law_1108 : decode cL_law 1108 = .ok (.ifCond .ne 15, 3) := by decide +kernel
theorem dL_law_1123 : decode cL_law 1123 = .ok (.goto 1527, 3) := by decide +kernel
theorem dL_law_1111 : decode cL_law 1111 = .ok (.aload_n 3, 1) := by decide +kernel
theorem dL_law_1112 : decode cL_law 1112 = .ok (.iconst 0, 1) := by decide +kernel
theorem dL_law_1113 : decode cL_law 1113 = .ok (.laload, 1) := by decide +kernel
theorem dL_law_1114 : decode cL_law 1114 = .ok (.iload 7, 2) := by decide +kernel
theorem dL_law_1116 : decode cL_law 1116 = .ok (.i2l, 1) := by decide +kernel
theorem dL_law_1117 : decode cL_law 1117 = .ok (.lcmp, 1) := by decide +kernel
theorem dL_law_1118 : decode cL_law 1118 = .ok (.ifCond .eq 5, 3) := by decide +kernel
variable {l : Launch} {N0 : Nat} {D : va_G} {cI cC cL cD cII cTr cTm cIt cB : ClassId} {F : Nat → Option va_E} {ql : Nat → Nat}
theorem k558_X7_label {n : Nat} {a1 : Int32} {a2 : Int32} (g_a1_le_m1 : a1 ≤ (-1)) (hst : l.stackTraces = false) (hn : N0 + 231 ≤ n) (h0 : F N0 = some (.inr (9, [.ref (N0 + 1), .ref (N0 + 2), .ref (N0 + 11), .ref (N0 + 13), .ref (N0 + 63), .ref (N0 + 65), .ref (N0 + 85), .int (-1), .int (-1), .int 32]))) : vx_Met l yX7_label wsX7_label ({ frames := 8, cells := 1, slots := 6, locals := 126 }) (va_Pc [.ref N0, .int a1, .int a2] (fP N0 D vwCl (fty cI cC cL cD cII cTr cTm cIt cB) (fen ql) F n)) (fNo N0 D vwCl (fty cI cC cL cD cII cTr cTm cIt cB) F n) (fXC N0 D vwCl (fty cI cC cL cD cII cTr cTm cIt cB) "java/lang/IndexOutOfBoundsException" F n) 1 6 (fA N0) := by
  refine fx_startX 3 rfl rfl (Nat.le_of_ble_eq_true rfl) ?_ rfl
  intro p e s m below meth c ls S htab hlocks hG hl
  have hl : lv_has ls 3 [(0, .ref N0), (1, .int a1), (2, .int a2)] := hl
  have lt_h0 := hG.1.lt h0
  refine lv_aload_n S.1 S.2.1 dX7_label_0 rfl (lv_at hl 0 rfl) ?_
  refine lv_iload_n S.1 S.2.1 dX7_label_1 rfl (lv_at hl 1 rfl) ?_
  refine lv_iload_n S.1 S.2.1 dX7_label_2 rfl (lv_at hl 2 rfl) ?_
  refine fx_xV (As := [.int a1, .int a2]) (rest := []) S hG (k67_X7_treeWith g_a1_le_m1 hst (by omega) h0) h0 rfl (cwV 2 S.2.2.2.2 gX7_label_X7_treeWith rfl rfl rfl (by decide +kernel) ⟨Nat.le_of_ble_eq_true rfl, Nat.le_of_ble_eq_true rfl⟩) rfl hl.1 rfl (Nat.le_of_ble_eq_true rfl) dX7_label_3 ⟨Nat.le_of_ble_eq_true rfl, Nat.le_of_ble_eq_true rfl⟩ (fun ceq_1 q_1 H locs n_2 hn_2 hG h1q_1 h2q_1 h3q_1 => ?_)
  exact fx_out htab hlocks hG (by omega) h1q_1 h2q_1 h3q_1 (by decide) (by decide)
theorem k559_L_label {n : Nat} {a1 : Int32} {a2 : Int32} (g_a1_le_m1 : a1 ≤ (-1)) (hst : l.stackTraces = false) (hn : N0 + 231 ≤ n) (h0 : F N0 = some (.inr (9, [.ref (N0 + 1), .ref (N0 + 2), .ref (N0 + 11), .ref (N0 + 13), .ref (N0 + 63), .ref (N0 + 65), .ref (N0 + 85), .int (-1), .int (-1), .int 32]))) : Met l yL_label wsL_label ({ frames := 9, cells := 1, slots := 6, locals := 148 }) (va_Pc [.ref N0, .int a1, .int a2, .ref (N0 + 229)] (fP N0 D vwCl (fty cI cC cL cD cII cTr cTm cIt cB) (fen ql) F n)) (fQi N0 D vwCl (fty cI cC cL cD cII cTr cTm cIt cB) (fun (r : Int32) (u : Nat) => r = 1 ∧ n ≤ u) (fun _ => F) (fun u => u)) 1 6 (fA N0) := by
  refine fx_startW (hh := [(0, 10, 13, 19)]) 5 rfl rfl (Nat.le_of_ble_eq_true rfl) ?_ rfl
  intro p e s m below meth c ls S htab hr hlocks hG hl
  have hl : lv_has ls 5 [(0, .ref N0), (1, .int a1), (2, .int a2), (3, .ref (N0 + 229))] := hl
  have lt_h0 := hG.1.lt h0
  refine lv_aload_n S.1 S.2.1 dL_label_0 rfl (lv_at hl 3 rfl) ?_
  refine lv_iconst (v := 0) S.1 S.2.1 dL_label_1 (by decide) ?_
  refine lv_aload_n S.1 S.2.1 dL_label_2 rfl (lv_at hl 0 rfl) ?_
  refine lv_iload_n S.1 S.2.1 dL_label_3 rfl (lv_at hl 1 rfl) ?_
  refine lv_iload_n S.1 S.2.1 dL_label_4 rfl (lv_at hl 2 rfl) ?_
  refine fx_xV (As := [.int a1, .int a2]) (rest := [.int 0, .ref (N0 + 229)]) S hG (k558_X7_label g_a1_le_m1 hst (by omega) h0) h0 rfl (cwV 2 S.2.2.2.2 gL_label_X7_label rfl rfl rfl (by decide +kernel) ⟨Nat.le_of_ble_eq_true rfl, Nat.le_of_ble_eq_true rfl⟩) rfl hl.1 rfl (Nat.le_of_ble_eq_true rfl) dL_label_5 ⟨Nat.le_of_ble_eq_true rfl, Nat.le_of_ble_eq_true rfl⟩ (fun ceq_1 q_1 H locs n_2 hn_2 hG h1q_1 h2q_1 h3q_1 => ?_)
  refine fx_catch (hh := [(0, 10, 13, 19)]) S htab hG h1q_1 h2q_1 h3q_1 [] ⟨0, 10, 13, 19⟩ [] rfl [] (fun z hz => absurd hz List.not_mem_nil) (by decide) (by decide) (by decide +kernel) (List.mem_of_getElem? (i := 2) rfl) ?_
  refine lv_astore (lv' := [(4, .ref q_1), (0, .ref N0), (1, .int a1), (2, .int a2), (3, .ref (N0 + 229))]) S.1 S.2.1 dL_label_13 hl (by decide) rfl (fun ls hl => ?_)
  refine lv_iconst (v := 1) S.1 S.2.1 dL_label_15 (by decide) ?_
  exact fx_iret S hr hlocks n_2 hG (⟨rfl, hn_2⟩) dL_label_16
theorem k560_X10_label {n : Nat} {a1 : Int32} {a2 : Int32} (g_a1_le_m1 : a1 ≤ (-1)) (hn : N0 + 231 ≤ n) (h0 : F (N0 + 164) = some (.inr (12, [.ref (N0 + 165), .int 0, .ref (N0 + 181), .int 0, .int 0, .int 0, .int (-1), .ref (ql 24), .ref (N0 + 182), .ref (N0 + 187), .ref (N0 + 208), .ref (N0 + 209), .ref (N0 + 210), .ref (N0 + 211), .ref (N0 + 212), .int 0, .ref (N0 + 213), .ref (N0 + 218), .ref (N0 + 223), .ref (N0 + 224), .ref (N0 + 225), .ref (N0 + 226), .ref (N0 + 227), .int 0, .int 0, .ref (N0 + 228), .null, .int (-1), .int 0, .int 0, .int 0]))) : Met l yX10_label wsX10_label ({ frames := 4, cells := 0, slots := 0, locals := 86 }) (va_Pc [.ref (N0 + 164), .int a1, .int a2] (fP N0 D vwCl (fty cI cC cL cD cII cTr cTm cIt cB) (fen ql) F n)) (fQi N0 D vwCl (fty cI cC cL cD cII cTr cTm cIt cB) (fun (r : Int32) (_ : Unit) => r = 0) (fun _ => (fu F (N0 + 164) (.inr (12, [.ref (N0 + 165), .int 1, .ref (N0 + 181), .int 0, .int 0, .int 0, .int (-1), .ref (ql 24), .ref (N0 + 182), .ref (N0 + 187), .ref (N0 + 208), .ref (N0 + 209), .ref (N0 + 210), .ref (N0 + 211), .ref (N0 + 212), .int 0, .ref (N0 + 213), .ref (N0 + 218), .ref (N0 + 223), .ref (N0 + 224), .ref (N0 + 225), .ref (N0 + 226), .ref (N0 + 227), .int 0, .int 0, .ref (N0 + 228), .null, .int (-1), .int 0, .int 0, .int 0])))) (fun _ => n)) 0 0 (fA N0) := by
  refine fx_start 3 rfl rfl (Nat.le_of_ble_eq_true rfl) ?_ rfl
  intro p e s m below meth c ls S hr hlocks hin hG hl
  have hl : lv_has ls 3 [(0, .ref (N0 + 164)), (1, .int a1), (2, .int a2)] := hl
  have lt_h0 := hG.1.lt h0
  refine lv_aload_n S.1 S.2.1 dX10_label_0 rfl (lv_at hl 0 rfl) ?_
  refine lv_iload_n S.1 S.2.1 dX10_label_1 rfl (lv_at hl 1 rfl) ?_
  refine lv_iload_n S.1 S.2.1 dX10_label_2 rfl (lv_at hl 2 rfl) ?_
  refine fx_cVi (As := [.int a1, .int a2]) (rest := []) S hG (k71_X10_isNowhere g_a1_le_m1 (by omega) h0) h0 rfl (cwV 2 S.2.2.2.2 gX10_label_X10_isNowhere rfl rfl rfl (by decide +kernel) ⟨Nat.le_of_ble_eq_true rfl, Nat.le_of_ble_eq_true rfl⟩) rfl hl.1 rfl (Nat.le_of_ble_eq_true rfl) dX10_label_3 ⟨Nat.le_of_ble_eq_true rfl, Nat.le_of_ble_eq_true rfl⟩ (fun rv_1 _ H locs hp hG => ?_)
  subst rv_1
  refine lv_if_eq (tgt := 13) S.1 S.2.1 dX10_label_6 (by decide) (fun c => absurd c (by decide)) (fun _ => ?_)
  refine lv_iconst (v := 0) S.1 S.2.1 dX10_label_9 (by decide) ?_
  refine lv_goto (tgt := 25) S.1 S.2.1 dX10_label_10 (by decide) ?_
  exact fx_zret S hr (rfl) hlocks () hG (rfl) dX10_label_25
theorem k561_X7_label {n : Nat} {a2 : Int32} (g_a2_le_m1 : a2 ≤ (-1)) (hst : l.stackTraces = false) (hn : N0 + 231 ≤ n) (h0 : F N0 = some (.inr (9, [.ref (N0 + 1), .ref (N0 + 2), .ref (N0 + 11), .ref (N0 + 13), .ref (N0 + 63), .ref (N0 + 65), .ref (N0 + 85), .int (-1), .int (-1), .int 32]))) (h1 : F (N0 + 1) = some (.inl (cTr, 3, .inr (.inr (.inr (.inr (va_up (va_up (va_up (fun _ => none) 0 (some (N0 + 143))) 1 (some (N0 + 150))) 2 (some (N0 + 157))))))))) (h2 : F (N0 + 143) = some (.inr (7, [.ref (N0 + 144), .ref (N0 + 145), .ref (N0 + 146), .ref (N0 + 147), .ref (N0 + 148), .ref (N0 + 149), .int 1]))) : vx_Met l yX7_label wsX7_label ({ frames := 7, cells := 1, slots := 6, locals := 105 }) (va_Pc [.ref N0, .int 0, .int a2] (fP N0 D vwCl (fty cI cC cL cD cII cTr cTm cIt cB) (fen ql) F n)) (fNo N0 D vwCl (fty cI cC cL cD cII cTr cTm cIt cB) F n) (fXC N0 D vwCl (fty cI cC cL cD cII cTr cTm cIt cB) "java/lang/IndexOutOfBoundsException" F n) 1 6 (fA N0) := by
  refine fx_startX 3 rfl rfl (Nat.le_of_ble_eq_true rfl) ?_ rfl
  intro p e s m below meth c ls S htab hlocks hG hl
  have hl : lv_has ls 3 [(0, .ref N0), (1, .int 0), (2, .int a2)] := hl
  have lt_h0 := hG.1.lt h0
  have lt_h1 := hG.1.lt h1
  have lt_h2 := hG.1.lt h2
  refine lv_aload_n S.1 S.2.1 dX7_label_0 rfl (lv_at hl 0 rfl) ?_
  refine lv_iload_n S.1 S.2.1 dX7_label_1 rfl (lv_at hl 1 rfl) ?_
  refine lv_iload_n S.1 S.2.1 dX7_label_2 rfl (lv_at hl 2 rfl) ?_
  refine fx_xV (As := [.int 0, .int a2]) (rest := []) S hG (k74_X7_treeWith g_a2_le_m1 hst (by omega) h0 h1 h2) h0 rfl (cwV 2 S.2.2.2.2 gX7_label_X7_treeWith rfl rfl rfl (by decide +kernel) ⟨Nat.le_of_ble_eq_true rfl, Nat.le_of_ble_eq_true rfl⟩) rfl hl.1 rfl (Nat.le_of_ble_eq_true rfl) dX7_label_3 ⟨Nat.le_of_ble_eq_true rfl, Nat.le_of_ble_eq_true rfl⟩ (fun ceq_1 q_1 H locs n_2 hn_2 hG h1q_1 h2q_1 h3q_1 => ?_)
  exact fx_out htab hlocks hG (by omega) h1q_1 h2q_1 h3q_1 (by decide) (by decide)
theorem k562_L_label {n : Nat} {a2 : Int32} (g_a2_le_m1 : a2 ≤ (-1)) (hst : l.stackTraces = false) (hn : N0 + 231 ≤ n) (h0 : F N0 = some (.inr (9, [.ref (N0 + 1), .ref (N0 + 2), .ref (N0 + 11), .ref (N0 + 13), .ref (N0 + 63), .ref (N0 + 65), .ref (N0 + 85), .int (-1), .int (-1), .int 32]))) (h1 : F (N0 + 1) = some (.inl (cTr, 3, .inr (.inr (.inr (.inr (va_up (va_up (va_up (fun _ => none) 0 (some (N0 + 143))) 1 (some (N0 + 150))) 2 (some (N0 + 157))))))))) (h2 : F (N0 + 143) = some (.inr (7, [.ref (N0 + 144), .ref (N0 + 145), .ref (N0 + 146), .ref (N0 + 147), .ref (N0 + 148), .ref (N0 + 149), .int 1]))) : Met l yL_label wsL_label ({ frames := 8, cells := 1, slots := 6, locals := 127 }) (va_Pc [.ref N0, .int 0, .int a2, .ref (N0 + 229)] (fP N0 D vwCl (fty cI cC cL cD cII cTr cTm cIt cB) (fen ql) F n)) (fQi N0 D vwCl (fty cI cC cL cD cII cTr cTm cIt cB) (fun (r : Int32) (u : Nat) => r = 1 ∧ n ≤ u) (fun _ => F) (fun u => u)) 1 6 (fA N0) := by
  refine fx_startW (hh := [(0, 10, 13, 19)]) 5 rfl rfl (Nat.le_of_ble_eq_true rfl) ?_ rfl
  intro p e s m below meth c ls S htab hr hlocks hG hl
  have hl : lv_has ls 5 [(0, .ref N0), (1, .int 0), (2, .int a2), (3, .ref (N0 + 229))] := hl
  have lt_h0 := hG.1.lt h0
  have lt_h1 := hG.1.lt h1
  have lt_h2 := hG.1.lt h2
  refine lv_aload_n S.1 S.2.1 dL_label_0 rfl (lv_at hl 3 rfl) ?_
  refine lv_iconst (v := 0) S.1 S.2.1 dL_label_1 (by decide) ?_
  refine lv_aload_n S.1 S.2.1 dL_label_2 rfl (lv_at hl 0 rfl) ?_
  refine lv_iload_n S.1 S.2.1 dL_label_3 rfl (lv_at hl 1 rfl) ?_
  refine lv_iload_n S.1 S.2.1 dL_label_4 rfl (lv_at hl 2 rfl) ?_
  refine fx_xV (As := [.int 0, .int a2]) (rest := [.int 0, .ref (N0 + 229)]) S hG (k561_X7_label g_a2_le_m1 hst (by omega) h0 h1 h2) h0 rfl (cwV 2 S.2.2.2.2 gL_label_X7_label rfl rfl rfl (by decide +kernel) ⟨Nat.le_of_ble_eq_true rfl, Nat.le_of_ble_eq_true rfl⟩) rfl hl.1 rfl (Nat.le_of_ble_eq_true rfl) dL_label_5 ⟨Nat.le_of_ble_eq_true rfl, Nat.le_of_ble_eq_true rfl⟩ (fun ceq_1 q_1 H locs n_2 hn_2 hG h1q_1 h2q_1 h3q_1 => ?_)
  refine fx_catch (hh := [(0, 10, 13, 19)]) S htab hG h1q_1 h2q_1 h3q_1 [] ⟨0, 10, 13, 19⟩ [] rfl [] (fun z hz => absurd hz List.not_mem_nil) (by decide) (by decide) (by decide +kernel) (List.mem_of_getElem? (i := 2) rfl) ?_
  refine lv_astore (lv' := [(4, .ref q_1), (0, .ref N0), (1, .int 0), (2, .int a2), (3, .ref (N0 + 229))]) S.1 S.2.1 dL_label_13 hl (by decide) rfl (fun ls hl => ?_)
  refine lv_iconst (v := 1) S.1 S.2.1 dL_label_15 (by decide) ?_
  exact fx_iret S hr hlocks n_2 hG (⟨rfl, hn_2⟩) dL_label_16
theorem k563_X10_label {n : Nat} {a2 : Int32} (g_a2_le_m1 : a2 ≤ (-1)) (hn : N0 + 231 ≤ n) (h0 : F (N0 + 164) = some (.inr (12, [.ref (N0 + 165), .int 0, .ref (N0 + 181), .int 0, .int 0, .int 0, .int (-1), .ref (ql 24), .ref (N0 + 182), .ref (N0 + 187), .ref (N0 + 208), .ref (N0 + 209), .ref (N0 + 210), .ref (N0 + 211), .ref (N0 + 212), .int 0, .ref (N0 + 213), .ref (N0 + 218), .ref (N0 + 223), .ref (N0 + 224), .ref (N0 + 225), .ref (N0 + 226), .ref (N0 + 227), .int 0, .int 0, .ref (N0 + 228), .null, .int (-1), .int 0, .int 0, .int 0]))) (h1 : F (N0 + 165) = some (.inl (cTm, 3, .inr (.inr (.inr (.inr (va_up (va_up (va_up (fun _ => none) 0 (some (N0 + 166))) 1 (some (N0 + 171))) 2 (some (N0 + 176))))))))) (h2 : F (N0 + 166) = some (.inr (11, [.ref (N0 + 167), .ref (N0 + 168), .ref (N0 + 169), .ref (N0 + 170), .int 1]))) : Met l yX10_label wsX10_label ({ frames := 4, cells := 0, slots := 0, locals := 86 }) (va_Pc [.ref (N0 + 164), .int 0, .int a2] (fP N0 D vwCl (fty cI cC cL cD cII cTr cTm cIt cB) (fen ql) F n)) (fQi N0 D vwCl (fty cI cC cL cD cII cTr cTm cIt cB) (fun (r : Int32) (_ : Unit) => r = 0) (fun _ => (fu F (N0 + 164) (.inr (12, [.ref (N0 + 165), .int 1, .ref (N0 + 181), .int 0, .int 0, .int 0, .int (-1), .ref (ql 24), .ref (N0 + 182), .ref (N0 + 187), .ref (N0 + 208), .ref (N0 + 209), .ref (N0 + 210), .ref (N0 + 211), .ref (N0 + 212), .int 0, .ref (N0 + 213), .ref (N0 + 218), .ref (N0 + 223), .ref (N0 + 224), .ref (N0 + 225), .ref (N0 + 226), .ref (N0 + 227), .int 0, .int 0, .ref (N0 + 228), .null, .int (-1), .int 0, .int 0, .int 0])))) (fun _ => n)) 0 0 (fA N0) := by
  refine fx_start 3 rfl rfl (Nat.le_of_ble_eq_true rfl) ?_ rfl
  intro p e s m below meth c ls S hr hlocks hin hG hl
  have hl : lv_has ls 3 [(0, .ref (N0 + 164)), (1, .int 0), (2, .int a2)] := hl
  have lt_h0 := hG.1.lt h0
  have lt_h1 := hG.1.lt h1
  have lt_h2 := hG.1.lt h2
  refine lv_aload_n S.1 S.2.1 dX10_label_0 rfl (lv_at hl 0 rfl) ?_
  refine lv_iload_n S.1 S.2.1 dX10_label_1 rfl (lv_at hl 1 rfl) ?_
  refine lv_iload_n S.1 S.2.1 dX10_label_2 rfl (lv_at hl 2 rfl) ?_
  refine fx_cVi (As := [.int 0, .int a2]) (rest := []) S hG (k79_X10_isNowhere g_a2_le_m1 (by omega) h0 h1 h2) h0 rfl (cwV 2 S.2.2.2.2 gX10_label_X10_isNowhere rfl rfl rfl (by decide +kernel) ⟨Nat.le_of_ble_eq_true rfl, Nat.le_of_ble_eq_true rfl⟩) rfl hl.1 rfl (Nat.le_of_ble_eq_true rfl) dX10_label_3 ⟨Nat.le_of_ble_eq_true rfl, Nat.le_of_ble_eq_true rfl⟩ (fun rv_1 _ H locs hp hG => ?_)
  subst rv_1
  refine lv_if_eq (tgt := 13) S.1 S.2.1 dX10_label_6 (by decide) (fun c => absurd c (by decide)) (fun _ => ?_)
  refine lv_iconst (v := 0) S.1 S.2.1 dX10_label_9 (by decide) ?_
  refine lv_goto (tgt := 25) S.1 S.2.1 dX10_label_10 (by decide) ?_
  exact fx_zret S hr (rfl) hlocks () hG (rfl) dX10_label_25
theorem i_X7_label_X5 : ∀ w ∈ u_ws RX5 TX5 7, w ∈ wsX7_label := by decide +kernel
theorem k564_X7_label {n : Nat} (hn : N0 + 231 ≤ n) (h0 : F N0 = some (.inr (9, [.ref (N0 + 1), .ref (N0 + 2), .ref (N0 + 11), .ref (N0 + 13), .ref (N0 + 63), .ref (N0 + 65), .ref (N0 + 85), .int (-1), .int (-1), .int 32]))) (h1 : F (N0 + 1) = some (.inl (cTr, 3, .inr (.inr (.inr (.inr (va_up (va_up (va_up (fun _ => none) 0 (some (N0 + 143))) 1 (some (N0 + 150))) 2 (some (N0 + 157))))))))) (h2 : F (N0 + 143) = some (.inr (7, [.ref (N0 + 144), .ref (N0 + 145), .ref (N0 + 146), .ref (N0 + 147), .ref (N0 + 148), .ref (N0 + 149), .int 1]))) (h3 : F (N0 + 144) = some (.inl (cC, 20, .inl (upd (fun _ => 0) 0 97)))) : Met l yX7_label wsX7_label ({ frames := 2, cells := 0, slots := 0, locals := 44 }) (va_Pc [.ref N0, .int 0, .int 0] (fP N0 D vwCl (fty cI cC cL cD cII cTr cTm cIt cB) (fen ql) F n)) (fQi N0 D vwCl (fty cI cC cL cD cII cTr cTm cIt cB) (fun (r : Int32) (_ : Unit) => r = 97) (fun _ => F) (fun _ => n)) 0 0 (fA N0) := by
  refine fx_start 3 rfl rfl (Nat.le_of_ble_eq_true rfl) ?_ rfl
  intro p e s m below meth c ls S hr hlocks hin hG hl
  have hl : lv_has ls 3 [(0, .ref N0), (1, .int 0), (2, .int 0)] := hl
  have lt_h0 := hG.1.lt h0
  have lt_h1 := hG.1.lt h1
  have lt_h2 := hG.1.lt h2
  have lt_h3 := hG.1.lt h3
  refine lv_aload_n S.1 S.2.1 dX7_label_0 rfl (lv_at hl 0 rfl) ?_
  refine lv_iload_n S.1 S.2.1 dX7_label_1 rfl (lv_at hl 1 rfl) ?_
  refine lv_iload_n S.1 S.2.1 dX7_label_2 rfl (lv_at hl 2 rfl) ?_
  refine fx_cVr (As := [.int 0, .int 0]) (rest := []) S hG (k82_X7_treeWith (by omega) h0 h1 h2) h0 rfl (cwV 2 S.2.2.2.2 gX7_label_X7_treeWith rfl rfl rfl (by decide +kernel) ⟨Nat.le_of_ble_eq_true rfl, Nat.le_of_ble_eq_true rfl⟩) rfl hl.1 rfl (Nat.le_of_ble_eq_true rfl) dX7_label_3 ⟨Nat.le_of_ble_eq_true rfl, Nat.le_of_ble_eq_true rfl⟩ (fun rv_1 _ H locs hp hG => ?_)
  subst rv_1
  refine gx_get (C := RX5) (T := TX5) (N := 7) S hG h2 i_X7_label_X5 rfl 0 (by decide) (by decide +kernel) rfl dX7_label_6 ?_
  refine lv_iload_n S.1 S.2.1 dX7_label_9 rfl (lv_at hl 2 rfl) ?_
  refine gx_cald (v := 97) S hG 1 h3 rfl (fin_l (by decide)) (by decide) dX7_label_10 ?_
  exact fx_zret S hr (rfl) hlocks () hG (rfl) dX7_label_11
theorem k565_L_label {n : Nat} (hn : N0 + 231 ≤ n) (h0 : F N0 = some (.inr (9, [.ref (N0 + 1), .ref (N0 + 2), .ref (N0 + 11), .ref (N0 + 13), .ref (N0 + 63), .ref (N0 + 65), .ref (N0 + 85), .int (-1), .int (-1), .int 32]))) (h1 : F (N0 + 1) = some (.inl (cTr, 3, .inr (.inr (.inr (.inr (va_up (va_up (va_up (fun _ => none) 0 (some (N0 + 143))) 1 (some (N0 + 150))) 2 (some (N0 + 157))))))))) (h2 : F (N0 + 143) = some (.inr (7, [.ref (N0 + 144), .ref (N0 + 145), .ref (N0 + 146), .ref (N0 + 147), .ref (N0 + 148), .ref (N0 + 149), .int 1]))) (h3 : F (N0 + 144) = some (.inl (cC, 20, .inl (upd (fun _ => 0) 0 97)))) (h4 : F (N0 + 229) = some (.inl (cL, 1, .inr (.inl (fun _ => 0))))) : Met l yL_label wsL_label ({ frames := 3, cells := 0, slots := 0, locals := 66 }) (va_Pc [.ref N0, .int 0, .int 0, .ref (N0 + 229)] (fP N0 D vwCl (fty cI cC cL cD cII cTr cTm cIt cB) (fen ql) F n)) (fQi N0 D vwCl (fty cI cC cL cD cII cTr cTm cIt cB) (fun (r : Int32) (_ : Unit) => r = 0) (fun _ => (fu F (N0 + 229) (.inl (cL, 1, .inr (.inl (vp_updL (fun _ => 0) 0 97)))))) (fun _ => n)) 0 0 (fA N0) := by
  refine fx_startW (hh := [(0, 10, 13, 19)]) 5 rfl rfl (Nat.le_of_ble_eq_true rfl) ?_ rfl
  intro p e s m below meth c ls S htab hr hlocks hG hl
  have hl : lv_has ls 5 [(0, .ref N0), (1, .int 0), (2, .int 0), (3, .ref (N0 + 229))] := hl
  have lt_h0 := hG.1.lt h0
  have lt_h1 := hG.1.lt h1
  have lt_h2 := hG.1.lt h2
  have lt_h3 := hG.1.lt h3
  have lt_h4 := hG.1.lt h4
  refine lv_aload_n S.1 S.2.1 dL_label_0 rfl (lv_at hl 3 rfl) ?_
  refine lv_iconst (v := 0) S.1 S.2.1 dL_label_1 (by decide) ?_
  refine lv_aload_n S.1 S.2.1 dL_label_2 rfl (lv_at hl 0 rfl) ?_
  refine lv_iload_n S.1 S.2.1 dL_label_3 rfl (lv_at hl 1 rfl) ?_
  refine lv_iload_n S.1 S.2.1 dL_label_4 rfl (lv_at hl 2 rfl) ?_
  refine fx_cVi (As := [.int 0, .int 0]) (rest := [.int 0, .ref (N0 + 229)]) S hG (k564_X7_label (by omega) h0 h1 h2 h3) h0 rfl (cwV 2 S.2.2.2.2 gL_label_X7_label rfl rfl rfl (by decide +kernel) ⟨Nat.le_of_ble_eq_true rfl, Nat.le_of_ble_eq_true rfl⟩) rfl hl.1 rfl (Nat.le_of_ble_eq_true rfl) dL_label_5 ⟨Nat.le_of_ble_eq_true rfl, Nat.le_of_ble_eq_true rfl⟩ (fun rv_1 _ H locs hp hG => ?_)
  subst rv_1
  refine lv_i2l (v := 97) S.1 S.2.1 dL_label_8 (by decide) ?_
  refine gx_last (f' := vp_updL (fun _ => 0) 0 97) S hG 2 h4 rfl (fin_l (by decide)) dL_label_9 rfl (fun H locs hG => ?_)
  refine lv_goto (tgt := 17) S.1 S.2.1 dL_label_10 (by decide) ?_
  refine lv_iconst (v := 0) S.1 S.2.1 dL_label_17 (by decide) ?_
  exact fx_iret S hr hlocks () hG (rfl) dL_label_18
theorem i_X10_label_X10 : ∀ w ∈ u_ws RX10 TX10 31, w ∈ wsX10_label := by decide +kernel
theorem i_X10_label_X9 : ∀ w ∈ u_ws RX9 TX9 5, w ∈ wsX10_label := by decide +kernel
theorem k566_X10_label {n : Nat} (hn : N0 + 231 ≤ n) (h0 : F (N0 + 164) = some (.inr (12, [.ref (N0 + 165), .int 0, .ref (N0 + 181), .int 0, .int 0, .int 0, .int (-1), .ref (ql 24), .ref (N0 + 182), .ref (N0 + 187), .ref (N0 + 208), .ref (N0 + 209), .ref (N0 + 210), .ref (N0 + 211), .ref (N0 + 212), .int 0, .ref (N0 + 213), .ref (N0 + 218), .ref (N0 + 223), .ref (N0 + 224), .ref (N0 + 225), .ref (N0 + 226), .ref (N0 + 227), .int 0, .int 0, .ref (N0 + 228), .null, .int (-1), .int 0, .int 0, .int 0]))) (h1 : F (N0 + 165) = some (.inl (cTm, 3, .inr (.inr (.inr (.inr (va_up (va_up (va_up (fun _ => none) 0 (some (N0 + 166))) 1 (some (N0 + 171))) 2 (some (N0 + 176))))))))) (h2 : F (N0 + 166) = some (.inr (11, [.ref (N0 + 167), .ref (N0 + 168), .ref (N0 + 169), .ref (N0 + 170), .int 1]))) (h3 : F (N0 + 167) = some (.inl (cI, 20, .inl (upd (fun _ => 0) 0 97)))) : Met l yX10_label wsX10_label ({ frames := 4, cells := 0, slots := 0, locals := 86 }) (va_Pc [.ref (N0 + 164), .int 0, .int 0] (fP N0 D vwCl (fty cI cC cL cD cII cTr cTm cIt cB) (fen ql) F n)) (fQi N0 D vwCl (fty cI cC cL cD cII cTr cTm cIt cB) (fun (r : Int32) (_ : Unit) => r = 97) (fun _ => (fu F (N0 + 164) (.inr (12, [.ref (N0 + 165), .int 0, .ref (N0 + 181), .int 0, .int 0, .int 0, .int (-1), .ref (ql 24), .ref (N0 + 182), .ref (N0 + 187), .ref (N0 + 208), .ref (N0 + 209), .ref (N0 + 210), .ref (N0 + 211), .ref (N0 + 212), .int 0, .ref (N0 + 213), .ref (N0 + 218), .ref (N0 + 223), .ref (N0 + 224), .ref (N0 + 225), .ref (N0 + 226), .ref (N0 + 227), .int 0, .int 0, .ref (N0 + 228), .null, .int (-1), .int 0, .int 0, .int 0])))) (fun _ => n)) 0 0 (fA N0) := by
  refine fx_start 3 rfl rfl (Nat.le_of_ble_eq_true rfl) ?_ rfl
  intro p e s m below meth c ls S hr hlocks hin hG hl
  have hl : lv_has ls 3 [(0, .ref (N0 + 164)), (1, .int 0), (2, .int 0)] := hl
  have lt_h0 := hG.1.lt h0
  have lt_h1 := hG.1.lt h1
  have lt_h2 := hG.1.lt h2
  have lt_h3 := hG.1.lt h3
  refine lv_aload_n S.1 S.2.1 dX10_label_0 rfl (lv_at hl 0 rfl) ?_
  refine lv_iload_n S.1 S.2.1 dX10_label_1 rfl (lv_at hl 1 rfl) ?_
  refine lv_iload_n S.1 S.2.1 dX10_label_2 rfl (lv_at hl 2 rfl) ?_
  refine fx_cVi (As := [.int 0, .int 0]) (rest := []) S hG (k87_X10_isNowhere (by omega) h0 h1 h2) h0 rfl (cwV 2 S.2.2.2.2 gX10_label_X10_isNowhere rfl rfl rfl (by decide +kernel) ⟨Nat.le_of_ble_eq_true rfl, Nat.le_of_ble_eq_true rfl⟩) rfl hl.1 rfl (Nat.le_of_ble_eq_true rfl) dX10_label_3 ⟨Nat.le_of_ble_eq_true rfl, Nat.le_of_ble_eq_true rfl⟩ (fun rv_1 _ H locs hp hG => ?_)
  subst rv_1
  refine lv_if_eq (tgt := 13) S.1 S.2.1 dX10_label_6 (by decide) (fun _ => ?_) (fun c => absurd (by decide) c)
  refine lv_aload_n S.1 S.2.1 dX10_label_13 rfl (lv_at hl 0 rfl) ?_
  refine gx_get (C := RX10) (T := TX10) (N := 31) S hG fu_s i_X10_label_X10 rfl 0 (by decide) (by decide +kernel) rfl dX10_label_14 ?_
  refine lv_iload_n S.1 S.2.1 dX10_label_17 rfl (lv_at hl 1 rfl) ?_
  refine gx_aldq (x := (N0 + 166)) S hG 6 rfl (fu_at (by omega) h1) rfl (fin_l (by decide)) (rfl) dX10_label_18 ?_
  refine gx_getN (C := RX9) (T := TX9) (N := 5) S hG (fu_at (by omega) h2) i_X10_label_X9 rfl 0 (by decide) (List.mem_of_getElem? (i := 1) rfl) rfl dX10_label_19 ?_
  refine lv_iload_n S.1 S.2.1 dX10_label_22 rfl (lv_at hl 2 rfl) ?_
  refine gx_iald (v := 97) S hG 0 (fu_at (by omega) h3) rfl (fin_l (by decide)) (by decide) dX10_label_23 ?_
  refine lv_i2c (v := 97) S.1 S.2.1 dX10_label_24 (by decide) ?_
  exact fx_zret S hr (rfl) hlocks () hG (rfl) dX10_label_25
theorem k567_X7_label {n : Nat} {a2 : Int32} (g_a2_ge_1 : 1 ≤ a2) (hst : l.stackTraces = false) (hn : N0 + 231 ≤ n) (h0 : F N0 = some (.inr (9, [.ref (N0 + 1), .ref (N0 + 2), .ref (N0 + 11), .ref (N0 + 13), .ref (N0 + 63), .ref (N0 + 65), .ref (N0 + 85), .int (-1), .int (-1), .int 32]))) (h1 : F (N0 + 1) = some (.inl (cTr, 3, .inr (.inr (.inr (.inr (va_up (va_up (va_up (fun _ => none) 0 (some (N0 + 143))) 1 (some (N0 + 150))) 2 (some (N0 + 157))))))))) (h2 : F (N0 + 143) = some (.inr (7, [.ref (N0 + 144), .ref (N0 + 145), .ref (N0 + 146), .ref (N0 + 147), .ref (N0 + 148), .ref (N0 + 149), .int 1]))) : vx_Met l yX7_label wsX7_label ({ frames := 7, cells := 1, slots := 6, locals := 105 }) (va_Pc [.ref N0, .int 0, .int a2] (fP N0 D vwCl (fty cI cC cL cD cII cTr cTm cIt cB) (fen ql) F n)) (fNo N0 D vwCl (fty cI cC cL cD cII cTr cTm cIt cB) F n) (fXC N0 D vwCl (fty cI cC cL cD cII cTr cTm cIt cB) "java/lang/IndexOutOfBoundsException" F n) 1 6 (fA N0) := by
  refine fx_startX 3 rfl rfl (Nat.le_of_ble_eq_true rfl) ?_ rfl
  intro p e s m below meth c ls S htab hlocks hG hl
  have hl : lv_has ls 3 [(0, .ref N0), (1, .int 0), (2, .int a2)] := hl
  have lt_h0 := hG.1.lt h0
  have lt_h1 := hG.1.lt h1
  have lt_h2 := hG.1.lt h2
  refine lv_aload_n S.1 S.2.1 dX7_label_0 rfl (lv_at hl 0 rfl) ?_
  refine lv_iload_n S.1 S.2.1 dX7_label_1 rfl (lv_at hl 1 rfl) ?_
  refine lv_iload_n S.1 S.2.1 dX7_label_2 rfl (lv_at hl 2 rfl) ?_
  refine fx_xV (As := [.int 0, .int a2]) (rest := []) S hG (k130_X7_treeWith g_a2_ge_1 hst (by omega) h0 h1 h2) h0 rfl (cwV 2 S.2.2.2.2 gX7_label_X7_treeWith rfl rfl rfl (by decide +kernel) ⟨Nat.le_of_ble_eq_true rfl, Nat.le_of_ble_eq_true rfl⟩) rfl hl.1 rfl (Nat.le_of_ble_eq_true rfl) dX7_label_3 ⟨Nat.le_of_ble_eq_true rfl, Nat.le_of_ble_eq_true rfl⟩ (fun ceq_1 q_1 H locs n_2 hn_2 hG h1q_1 h2q_1 h3q_1 => ?_)
  exact fx_out htab hlocks hG (by omega) h1q_1 h2q_1 h3q_1 (by decide) (by decide)
theorem k568_L_label {n : Nat} {a2 : Int32} (g_a2_ge_1 : 1 ≤ a2) (hst : l.stackTraces = false) (hn : N0 + 231 ≤ n) (h0 : F N0 = some (.inr (9, [.ref (N0 + 1), .ref (N0 + 2), .ref (N0 + 11), .ref (N0 + 13), .ref (N0 + 63), .ref (N0 + 65), .ref (N0 + 85), .int (-1), .int (-1), .int 32]))) (h1 : F (N0 + 1) = some (.inl (cTr, 3, .inr (.inr (.inr (.inr (va_up (va_up (va_up (fun _ => none) 0 (some (N0 + 143))) 1 (some (N0 + 150))) 2 (some (N0 + 157))))))))) (h2 : F (N0 + 143) = some (.inr (7, [.ref (N0 + 144), .ref (N0 + 145), .ref (N0 + 146), .ref (N0 + 147), .ref (N0 + 148), .ref (N0 + 149), .int 1]))) : Met l yL_label wsL_label ({ frames := 8, cells := 1, slots := 6, locals := 127 }) (va_Pc [.ref N0, .int 0, .int a2, .ref (N0 + 229)] (fP N0 D vwCl (fty cI cC cL cD cII cTr cTm cIt cB) (fen ql) F n)) (fQi N0 D vwCl (fty cI cC cL cD cII cTr cTm cIt cB) (fun (r : Int32) (u : Nat) => r = 1 ∧ n ≤ u) (fun _ => F) (fun u => u)) 1 6 (fA N0) := by
  refine fx_startW (hh := [(0, 10, 13, 19)]) 5 rfl rfl (Nat.le_of_ble_eq_true rfl) ?_ rfl
  intro p e s m below meth c ls S htab hr hlocks hG hl
  have hl : lv_has ls 5 [(0, .ref N0), (1, .int 0), (2, .int a2), (3, .ref (N0 + 229))] := hl
  have lt_h0 := hG.1.lt h0
  have lt_h1 := hG.1.lt h1
  have lt_h2 := hG.1.lt h2
  refine lv_aload_n S.1 S.2.1 dL_label_0 rfl (lv_at hl 3 rfl) ?_
  refine lv_iconst (v := 0) S.1 S.2.1 dL_label_1 (by decide) ?_
  refine lv_aload_n S.1 S.2.1 dL_label_2 rfl (lv_at hl 0 rfl) ?_
  refine lv_iload_n S.1 S.2.1 dL_label_3 rfl (lv_at hl 1 rfl) ?_
  refine lv_iload_n S.1 S.2.1 dL_label_4 rfl (lv_at hl 2 rfl) ?_
  refine fx_xV (As := [.int 0, .int a2]) (rest := [.int 0, .ref (N0 + 229)]) S hG (k567_X7_label g_a2_ge_1 hst (by omega) h0 h1 h2) h0 rfl (cwV 2 S.2.2.2.2 gL_label_X7_label rfl rfl rfl (by decide +kernel) ⟨Nat.le_of_ble_eq_true rfl, Nat.le_of_ble_eq_true rfl⟩) rfl hl.1 rfl (Nat.le_of_ble_eq_true rfl) dL_label_5 ⟨Nat.le_of_ble_eq_true rfl, Nat.le_of_ble_eq_true rfl⟩ (fun ceq_1 q_1 H locs n_2 hn_2 hG h1q_1 h2q_1 h3q_1 => ?_)
  refine fx_catch (hh := [(0, 10, 13, 19)]) S htab hG h1q_1 h2q_1 h3q_1 [] ⟨0, 10, 13, 19⟩ [] rfl [] (fun z hz => absurd hz List.not_mem_nil) (by decide) (by decide) (by decide +kernel) (List.mem_of_getElem? (i := 2) rfl) ?_
  refine lv_astore (lv' := [(4, .ref q_1), (0, .ref N0), (1, .int 0), (2, .int a2), (3, .ref (N0 + 229))]) S.1 S.2.1 dL_label_13 hl (by decide) rfl (fun ls hl => ?_)
  refine lv_iconst (v := 1) S.1 S.2.1 dL_label_15 (by decide) ?_
  exact fx_iret S hr hlocks n_2 hG (⟨rfl, hn_2⟩) dL_label_16
theorem k569_X10_label {n : Nat} {a2 : Int32} (g_a2_ge_1 : 1 ≤ a2) (hn : N0 + 231 ≤ n) (h0 : F (N0 + 164) = some (.inr (12, [.ref (N0 + 165), .int 0, .ref (N0 + 181), .int 0, .int 0, .int 0, .int (-1), .ref (ql 24), .ref (N0 + 182), .ref (N0 + 187), .ref (N0 + 208), .ref (N0 + 209), .ref (N0 + 210), .ref (N0 + 211), .ref (N0 + 212), .int 0, .ref (N0 + 213), .ref (N0 + 218), .ref (N0 + 223), .ref (N0 + 224), .ref (N0 + 225), .ref (N0 + 226), .ref (N0 + 227), .int 0, .int 0, .ref (N0 + 228), .null, .int (-1), .int 0, .int 0, .int 0]))) (h1 : F (N0 + 165) = some (.inl (cTm, 3, .inr (.inr (.inr (.inr (va_up (va_up (va_up (fun _ => none) 0 (some (N0 + 166))) 1 (some (N0 + 171))) 2 (some (N0 + 176))))))))) (h2 : F (N0 + 166) = some (.inr (11, [.ref (N0 + 167), .ref (N0 + 168), .ref (N0 + 169), .ref (N0 + 170), .int 1]))) : Met l yX10_label wsX10_label ({ frames := 4, cells := 0, slots := 0, locals := 86 }) (va_Pc [.ref (N0 + 164), .int 0, .int a2] (fP N0 D vwCl (fty cI cC cL cD cII cTr cTm cIt cB) (fen ql) F n)) (fQi N0 D vwCl (fty cI cC cL cD cII cTr cTm cIt cB) (fun (r : Int32) (_ : Unit) => r = 0) (fun _ => (fu F (N0 + 164) (.inr (12, [.ref (N0 + 165), .int 1, .ref (N0 + 181), .int 0, .int 0, .int 0, .int (-1), .ref (ql 24), .ref (N0 + 182), .ref (N0 + 187), .ref (N0 + 208), .ref (N0 + 209), .ref (N0 + 210), .ref (N0 + 211), .ref (N0 + 212), .int 0, .ref (N0 + 213), .ref (N0 + 218), .ref (N0 + 223), .ref (N0 + 224), .ref (N0 + 225), .ref (N0 + 226), .ref (N0 + 227), .int 0, .int 0, .ref (N0 + 228), .null, .int (-1), .int 0, .int 0, .int 0])))) (fun _ => n)) 0 0 (fA N0) := by
  refine fx_start 3 rfl rfl (Nat.le_of_ble_eq_true rfl) ?_ rfl
  intro p e s m below meth c ls S hr hlocks hin hG hl
  have hl : lv_has ls 3 [(0, .ref (N0 + 164)), (1, .int 0), (2, .int a2)] := hl
  have lt_h0 := hG.1.lt h0
  have lt_h1 := hG.1.lt h1
  have lt_h2 := hG.1.lt h2
  refine lv_aload_n S.1 S.2.1 dX10_label_0 rfl (lv_at hl 0 rfl) ?_
  refine lv_iload_n S.1 S.2.1 dX10_label_1 rfl (lv_at hl 1 rfl) ?_
  refine lv_iload_n S.1 S.2.1 dX10_label_2 rfl (lv_at hl 2 rfl) ?_
  refine fx_cVi (As := [.int 0, .int a2]) (rest := []) S hG (k135_X10_isNowhere g_a2_ge_1 (by omega) h0 h1 h2) h0 rfl (cwV 2 S.2.2.2.2 gX10_label_X10_isNowhere rfl rfl rfl (by decide +kernel) ⟨Nat.le_of_ble_eq_true rfl, Nat.le_of_ble_eq_true rfl⟩) rfl hl.1 rfl (Nat.le_of_ble_eq_true rfl) dX10_label_3 ⟨Nat.le_of_ble_eq_true rfl, Nat.le_of_ble_eq_true rfl⟩ (fun rv_1 _ H locs hp hG => ?_)
  subst rv_1
  refine lv_if_eq (tgt := 13) S.1 S.2.1 dX10_label_6 (by decide) (fun c => absurd c (by decide)) (fun _ => ?_)
  refine lv_iconst (v := 0) S.1 S.2.1 dX10_label_9 (by decide) ?_
  refine lv_goto (tgt := 25) S.1 S.2.1 dX10_label_10 (by decide) ?_
  exact fx_zret S hr (rfl) hlocks () hG (rfl) dX10_label_25
theorem k570_X7_label {n : Nat} {a2 : Int32} (g_a2_le_m1 : a2 ≤ (-1)) (hst : l.stackTraces = false) (hn : N0 + 231 ≤ n) (h0 : F N0 = some (.inr (9, [.ref (N0 + 1), .ref (N0 + 2), .ref (N0 + 11), .ref (N0 + 13), .ref (N0 + 63), .ref (N0 + 65), .ref (N0 + 85), .int (-1), .int (-1), .int 32]))) (h1 : F (N0 + 1) = some (.inl (cTr, 3, .inr (.inr (.inr (.inr (va_up (va_up (va_up (fun _ => none) 0 (some (N0 + 143))) 1 (some (N0 + 150))) 2 (some (N0 + 157))))))))) (h2 : F (N0 + 150) = some (.inr (7, [.ref (N0 + 151), .ref (N0 + 152), .ref (N0 + 153), .ref (N0 + 154), .ref (N0 + 155), .ref (N0 + 156), .int 1]))) : vx_Met l yX7_label wsX7_label ({ frames := 7, cells := 1, slots := 6, locals := 105 }) (va_Pc [.ref N0, .int 1, .int a2] (fP N0 D vwCl (fty cI cC cL cD cII cTr cTm cIt cB) (fen ql) F n)) (fNo N0 D vwCl (fty cI cC cL cD cII cTr cTm cIt cB) F n) (fXC N0 D vwCl (fty cI cC cL cD cII cTr cTm cIt cB) "java/lang/IndexOutOfBoundsException" F n) 1 6 (fA N0) := by
  refine fx_startX 3 rfl rfl (Nat.le_of_ble_eq_true rfl) ?_ rfl
  intro p e s m below meth c ls S htab hlocks hG hl
  have hl : lv_has ls 3 [(0, .ref N0), (1, .int 1), (2, .int a2)] := hl
  have lt_h0 := hG.1.lt h0
  have lt_h1 := hG.1.lt h1
  have lt_h2 := hG.1.lt h2
  refine lv_aload_n S.1 S.2.1 dX7_label_0 rfl (lv_at hl 0 rfl) ?_
  refine lv_iload_n S.1 S.2.1 dX7_label_1 rfl (lv_at hl 1 rfl) ?_
  refine lv_iload_n S.1 S.2.1 dX7_label_2 rfl (lv_at hl 2 rfl) ?_
  refine fx_xV (As := [.int 1, .int a2]) (rest := []) S hG (k138_X7_treeWith g_a2_le_m1 hst (by omega) h0 h1 h2) h0 rfl (cwV 2 S.2.2.2.2 gX7_label_X7_treeWith rfl rfl rfl (by decide +kernel) ⟨Nat.le_of_ble_eq_true rfl, Nat.le_of_ble_eq_true rfl⟩) rfl hl.1 rfl (Nat.le_of_ble_eq_true rfl) dX7_label_3 ⟨Nat.le_of_ble_eq_true rfl, Nat.le_of_ble_eq_true rfl⟩ (fun ceq_1 q_1 H locs n_2 hn_2 hG h1q_1 h2q_1 h3q_1 => ?_)
  exact fx_out htab hlocks hG (by omega) h1q_1 h2q_1 h3q_1 (by decide) (by decide)
theorem k571_L_label {n : Nat} {a2 : Int32} (g_a2_le_m1 : a2 ≤ (-1)) (hst : l.stackTraces = false) (hn : N0 + 231 ≤ n) (h0 : F N0 = some (.inr (9, [.ref (N0 + 1), .ref (N0 + 2), .ref (N0 + 11), .ref (N0 + 13), .ref (N0 + 63), .ref (N0 + 65), .ref (N0 + 85), .int (-1), .int (-1), .int 32]))) (h1 : F (N0 + 1) = some (.inl (cTr, 3, .inr (.inr (.inr (.inr (va_up (va_up (va_up (fun _ => none) 0 (some (N0 + 143))) 1 (some (N0 + 150))) 2 (some (N0 + 157))))))))) (h2 : F (N0 + 150) = some (.inr (7, [.ref (N0 + 151), .ref (N0 + 152), .ref (N0 + 153), .ref (N0 + 154), .ref (N0 + 155), .ref (N0 + 156), .int 1]))) : Met l yL_label wsL_label ({ frames := 8, cells := 1, slots := 6, locals := 127 }) (va_Pc [.ref N0, .int 1, .int a2, .ref (N0 + 229)] (fP N0 D vwCl (fty cI cC cL cD cII cTr cTm cIt cB) (fen ql) F n)) (fQi N0 D vwCl (fty cI cC cL cD cII cTr cTm cIt cB) (fun (r : Int32) (u : Nat) => r = 1 ∧ n ≤ u) (fun _ => F) (fun u => u)) 1 6 (fA N0) := by
  refine fx_startW (hh := [(0, 10, 13, 19)]) 5 rfl rfl (Nat.le_of_ble_eq_true rfl) ?_ rfl
  intro p e s m below meth c ls S htab hr hlocks hG hl
  have hl : lv_has ls 5 [(0, .ref N0), (1, .int 1), (2, .int a2), (3, .ref (N0 + 229))] := hl
  have lt_h0 := hG.1.lt h0
  have lt_h1 := hG.1.lt h1
  have lt_h2 := hG.1.lt h2
  refine lv_aload_n S.1 S.2.1 dL_label_0 rfl (lv_at hl 3 rfl) ?_
  refine lv_iconst (v := 0) S.1 S.2.1 dL_label_1 (by decide) ?_
  refine lv_aload_n S.1 S.2.1 dL_label_2 rfl (lv_at hl 0 rfl) ?_
  refine lv_iload_n S.1 S.2.1 dL_label_3 rfl (lv_at hl 1 rfl) ?_
  refine lv_iload_n S.1 S.2.1 dL_label_4 rfl (lv_at hl 2 rfl) ?_
  refine fx_xV (As := [.int 1, .int a2]) (rest := [.int 0, .ref (N0 + 229)]) S hG (k570_X7_label g_a2_le_m1 hst (by omega) h0 h1 h2) h0 rfl (cwV 2 S.2.2.2.2 gL_label_X7_label rfl rfl rfl (by decide +kernel) ⟨Nat.le_of_ble_eq_true rfl, Nat.le_of_ble_eq_true rfl⟩) rfl hl.1 rfl (Nat.le_of_ble_eq_true rfl) dL_label_5 ⟨Nat.le_of_ble_eq_true rfl, Nat.le_of_ble_eq_true rfl⟩ (fun ceq_1 q_1 H locs n_2 hn_2 hG h1q_1 h2q_1 h3q_1 => ?_)
  refine fx_catch (hh := [(0, 10, 13, 19)]) S htab hG h1q_1 h2q_1 h3q_1 [] ⟨0, 10, 13, 19⟩ [] rfl [] (fun z hz => absurd hz List.not_mem_nil) (by decide) (by decide) (by decide +kernel) (List.mem_of_getElem? (i := 2) rfl) ?_
  refine lv_astore (lv' := [(4, .ref q_1), (0, .ref N0), (1, .int 1), (2, .int a2), (3, .ref (N0 + 229))]) S.1 S.2.1 dL_label_13 hl (by decide) rfl (fun ls hl => ?_)
  refine lv_iconst (v := 1) S.1 S.2.1 dL_label_15 (by decide) ?_
  exact fx_iret S hr hlocks n_2 hG (⟨rfl, hn_2⟩) dL_label_16
theorem k572_X10_label {n : Nat} {a2 : Int32} (g_a2_le_m1 : a2 ≤ (-1)) (hn : N0 + 231 ≤ n) (h0 : F (N0 + 164) = some (.inr (12, [.ref (N0 + 165), .int 0, .ref (N0 + 181), .int 0, .int 0, .int 0, .int (-1), .ref (ql 24), .ref (N0 + 182), .ref (N0 + 187), .ref (N0 + 208), .ref (N0 + 209), .ref (N0 + 210), .ref (N0 + 211), .ref (N0 + 212), .int 0, .ref (N0 + 213), .ref (N0 + 218), .ref (N0 + 223), .ref (N0 + 224), .ref (N0 + 225), .ref (N0 + 226), .ref (N0 + 227), .int 0, .int 0, .ref (N0 + 228), .null, .int (-1), .int 0, .int 0, .int 0]))) (h1 : F (N0 + 165) = some (.inl (cTm, 3, .inr (.inr (.inr (.inr (va_up (va_up (va_up (fun _ => none) 0 (some (N0 + 166))) 1 (some (N0 + 171))) 2 (some (N0 + 176))))))))) (h2 : F (N0 + 171) = some (.inr (11, [.ref (N0 + 172), .ref (N0 + 173), .ref (N0 + 174), .ref (N0 + 175), .int 1]))) : Met l yX10_label wsX10_label ({ frames := 4, cells := 0, slots := 0, locals := 86 }) (va_Pc [.ref (N0 + 164), .int 1, .int a2] (fP N0 D vwCl (fty cI cC cL cD cII cTr cTm cIt cB) (fen ql) F n)) (fQi N0 D vwCl (fty cI cC cL cD cII cTr cTm cIt cB) (fun (r : Int32) (_ : Unit) => r = 0) (fun _ => (fu F (N0 + 164) (.inr (12, [.ref (N0 + 165), .int 1, .ref (N0 + 181), .int 0, .int 0, .int 0, .int (-1), .ref (ql 24), .ref (N0 + 182), .ref (N0 + 187), .ref (N0 + 208), .ref (N0 + 209), .ref (N0 + 210), .ref (N0 + 211), .ref (N0 + 212), .int 0, .ref (N0 + 213), .ref (N0 + 218), .ref (N0 + 223), .ref (N0 + 224), .ref (N0 + 225), .ref (N0 + 226), .ref (N0 + 227), .int 0, .int 0, .ref (N0 + 228), .null, .int (-1), .int 0, .int 0, .int 0])))) (fun _ => n)) 0 0 (fA N0) := by
  refine fx_start 3 rfl rfl (Nat.le_of_ble_eq_true rfl) ?_ rfl
  intro p e s m below meth c ls S hr hlocks hin hG hl
  have hl : lv_has ls 3 [(0, .ref (N0 + 164)), (1, .int 1), (2, .int a2)] := hl
  have lt_h0 := hG.1.lt h0
  have lt_h1 := hG.1.lt h1
  have lt_h2 := hG.1.lt h2
  refine lv_aload_n S.1 S.2.1 dX10_label_0 rfl (lv_at hl 0 rfl) ?_
  refine lv_iload_n S.1 S.2.1 dX10_label_1 rfl (lv_at hl 1 rfl) ?_
  refine lv_iload_n S.1 S.2.1 dX10_label_2 rfl (lv_at hl 2 rfl) ?_
  refine fx_cVi (As := [.int 1, .int a2]) (rest := []) S hG (k142_X10_isNowhere g_a2_le_m1 (by omega) h0 h1 h2) h0 rfl (cwV 2 S.2.2.2.2 gX10_label_X10_isNowhere rfl rfl rfl (by decide +kernel) ⟨Nat.le_of_ble_eq_true rfl, Nat.le_of_ble_eq_true rfl⟩) rfl hl.1 rfl (Nat.le_of_ble_eq_true rfl) dX10_label_3 ⟨Nat.le_of_ble_eq_true rfl, Nat.le_of_ble_eq_true rfl⟩ (fun rv_1 _ H locs hp hG => ?_)
  subst rv_1
  refine lv_if_eq (tgt := 13) S.1 S.2.1 dX10_label_6 (by decide) (fun c => absurd c (by decide)) (fun _ => ?_)
  refine lv_iconst (v := 0) S.1 S.2.1 dX10_label_9 (by decide) ?_
  refine lv_goto (tgt := 25) S.1 S.2.1 dX10_label_10 (by decide) ?_
  exact fx_zret S hr (rfl) hlocks () hG (rfl) dX10_label_25
theorem k573_X7_label {n : Nat} (hn : N0 + 231 ≤ n) (h0 : F N0 = some (.inr (9, [.ref (N0 + 1), .ref (N0 + 2), .ref (N0 + 11), .ref (N0 + 13), .ref (N0 + 63), .ref (N0 + 65), .ref (N0 + 85), .int (-1), .int (-1), .int 32]))) (h1 : F (N0 + 1) = some (.inl (cTr, 3, .inr (.inr (.inr (.inr (va_up (va_up (va_up (fun _ => none) 0 (some (N0 + 143))) 1 (some (N0 + 150))) 2 (some (N0 + 157))))))))) (h2 : F (N0 + 150) = some (.inr (7, [.ref (N0 + 151), .ref (N0 + 152), .ref (N0 + 153), .ref (N0 + 154), .ref (N0 + 155), .ref (N0 + 156), .int 1]))) (h3 : F (N0 + 151) = some (.inl (cC, 20, .inl (upd (fun _ => 0) 0 97)))) : Met l yX7_label wsX7_label ({ frames := 2, cells := 0, slots := 0, locals := 44 }) (va_Pc [.ref N0, .int 1, .int 0] (fP N0 D vwCl (fty cI cC cL cD cII cTr cTm cIt cB) (fen ql) F n)) (fQi N0 D vwCl (fty cI cC cL cD cII cTr cTm cIt cB) (fun (r : Int32) (_ : Unit) => r = 97) (fun _ => F) (fun _ => n)) 0 0 (fA N0) := by
  refine fx_start 3 rfl rfl (Nat.le_of_ble_eq_true rfl) ?_ rfl
  intro p e s m below meth c ls S hr hlocks hin hG hl
  have hl : lv_has ls 3 [(0, .ref N0), (1, .int 1), (2, .int 0)] := hl
  have lt_h0 := hG.1.lt h0
  have lt_h1 := hG.1.lt h1
  have lt_h2 := hG.1.lt h2
  have lt_h3 := hG.1.lt h3
  refine lv_aload_n S.1 S.2.1 dX7_label_0 rfl (lv_at hl 0 rfl) ?_
  refine lv_iload_n S.1 S.2.1 dX7_label_1 rfl (lv_at hl 1 rfl) ?_
  refine lv_iload_n S.1 S.2.1 dX7_label_2 rfl (lv_at hl 2 rfl) ?_
  refine fx_cVr (As := [.int 1, .int 0]) (rest := []) S hG (k145_X7_treeWith (by omega) h0 h1 h2) h0 rfl (cwV 2 S.2.2.2.2 gX7_label_X7_treeWith rfl rfl rfl (by decide +kernel) ⟨Nat.le_of_ble_eq_true rfl, Nat.le_of_ble_eq_true rfl⟩) rfl hl.1 rfl (Nat.le_of_ble_eq_true rfl) dX7_label_3 ⟨Nat.le_of_ble_eq_true rfl, Nat.le_of_ble_eq_true rfl⟩ (fun rv_1 _ H locs hp hG => ?_)
  subst rv_1
  refine gx_get (C := RX5) (T := TX5) (N := 7) S hG h2 i_X7_label_X5 rfl 0 (by decide) (by decide +kernel) rfl dX7_label_6 ?_
  refine lv_iload_n S.1 S.2.1 dX7_label_9 rfl (lv_at hl 2 rfl) ?_
  refine gx_cald (v := 97) S hG 1 h3 rfl (fin_l (by decide)) (by decide) dX7_label_10 ?_
  exact fx_zret S hr (rfl) hlocks () hG (rfl) dX7_label_11
theorem k574_L_label {n : Nat} (hn : N0 + 231 ≤ n) (h0 : F N0 = some (.inr (9, [.ref (N0 + 1), .ref (N0 + 2), .ref (N0 + 11), .ref (N0 + 13), .ref (N0 + 63), .ref (N0 + 65), .ref (N0 + 85), .int (-1), .int (-1), .int 32]))) (h1 : F (N0 + 1) = some (.inl (cTr, 3, .inr (.inr (.inr (.inr (va_up (va_up (va_up (fun _ => none) 0 (some (N0 + 143))) 1 (some (N0 + 150))) 2 (some (N0 + 157))))))))) (h2 : F (N0 + 150) = some (.inr (7, [.ref (N0 + 151), .ref (N0 + 152), .ref (N0 + 153), .ref (N0 + 154), .ref (N0 + 155), .ref (N0 + 156), .int 1]))) (h3 : F (N0 + 151) = some (.inl (cC, 20, .inl (upd (fun _ => 0) 0 97)))) (h4 : F (N0 + 229) = some (.inl (cL, 1, .inr (.inl (fun _ => 0))))) : Met l yL_label wsL_label ({ frames := 3, cells := 0, slots := 0, locals := 66 }) (va_Pc [.ref N0, .int 1, .int 0, .ref (N0 + 229)] (fP N0 D vwCl (fty cI cC cL cD cII cTr cTm cIt cB) (fen ql) F n)) (fQi N0 D vwCl (fty cI cC cL cD cII cTr cTm cIt cB) (fun (r : Int32) (_ : Unit) => r = 0) (fun _ => (fu F (N0 + 229) (.inl (cL, 1, .inr (.inl (vp_updL (fun _ => 0) 0 97)))))) (fun _ => n)) 0 0 (fA N0) := by
  refine fx_startW (hh := [(0, 10, 13, 19)]) 5 rfl rfl (Nat.le_of_ble_eq_true rfl) ?_ rfl
  intro p e s m below meth c ls S htab hr hlocks hG hl
  have hl : lv_has ls 5 [(0, .ref N0), (1, .int 1), (2, .int 0), (3, .ref (N0 + 229))] := hl
  have lt_h0 := hG.1.lt h0
  have lt_h1 := hG.1.lt h1
  have lt_h2 := hG.1.lt h2
  have lt_h3 := hG.1.lt h3
  have lt_h4 := hG.1.lt h4
  refine lv_aload_n S.1 S.2.1 dL_label_0 rfl (lv_at hl 3 rfl) ?_
  refine lv_iconst (v := 0) S.1 S.2.1 dL_label_1 (by decide) ?_
  refine lv_aload_n S.1 S.2.1 dL_label_2 rfl (lv_at hl 0 rfl) ?_
  refine lv_iload_n S.1 S.2.1 dL_label_3 rfl (lv_at hl 1 rfl) ?_
  refine lv_iload_n S.1 S.2.1 dL_label_4 rfl (lv_at hl 2 rfl) ?_
  refine fx_cVi (As := [.int 1, .int 0]) (rest := [.int 0, .ref (N0 + 229)]) S hG (k573_X7_label (by omega) h0 h1 h2 h3) h0 rfl (cwV 2 S.2.2.2.2 gL_label_X7_label rfl rfl rfl (by decide +kernel) ⟨Nat.le_of_ble_eq_true rfl, Nat.le_of_ble_eq_true rfl⟩) rfl hl.1 rfl (Nat.le_of_ble_eq_true rfl) dL_label_5 ⟨Nat.le_of_ble_eq_true rfl, Nat.le_of_ble_eq_true rfl⟩ (fun rv_1 _ H locs hp hG => ?_)
  subst rv_1
  refine lv_i2l (v := 97) S.1 S.2.1 dL_label_8 (by decide) ?_
  refine gx_last (f' := vp_updL (fun _ => 0) 0 97) S hG 2 h4 rfl (fin_l (by decide)) dL_label_9 rfl (fun H locs hG => ?_)
  refine lv_goto (tgt := 17) S.1 S.2.1 dL_label_10 (by decide) ?_
  refine lv_iconst (v := 0) S.1 S.2.1 dL_label_17 (by decide) ?_
  exact fx_iret S hr hlocks () hG (rfl) dL_label_18
theorem k575_X10_label {n : Nat} (hn : N0 + 231 ≤ n) (h0 : F (N0 + 164) = some (.inr (12, [.ref (N0 + 165), .int 0, .ref (N0 + 181), .int 0, .int 0, .int 0, .int (-1), .ref (ql 24), .ref (N0 + 182), .ref (N0 + 187), .ref (N0 + 208), .ref (N0 + 209), .ref (N0 + 210), .ref (N0 + 211), .ref (N0 + 212), .int 0, .ref (N0 + 213), .ref (N0 + 218), .ref (N0 + 223), .ref (N0 + 224), .ref (N0 + 225), .ref (N0 + 226), .ref (N0 + 227), .int 0, .int 0, .ref (N0 + 228), .null, .int (-1), .int 0, .int 0, .int 0]))) (h1 : F (N0 + 165) = some (.inl (cTm, 3, .inr (.inr (.inr (.inr (va_up (va_up (va_up (fun _ => none) 0 (some (N0 + 166))) 1 (some (N0 + 171))) 2 (some (N0 + 176))))))))) (h2 : F (N0 + 171) = some (.inr (11, [.ref (N0 + 172), .ref (N0 + 173), .ref (N0 + 174), .ref (N0 + 175), .int 1]))) (h3 : F (N0 + 172) = some (.inl (cI, 20, .inl (upd (fun _ => 0) 0 97)))) : Met l yX10_label wsX10_label ({ frames := 4, cells := 0, slots := 0, locals := 86 }) (va_Pc [.ref (N0 + 164), .int 1, .int 0] (fP N0 D vwCl (fty cI cC cL cD cII cTr cTm cIt cB) (fen ql) F n)) (fQi N0 D vwCl (fty cI cC cL cD cII cTr cTm cIt cB) (fun (r : Int32) (_ : Unit) => r = 97) (fun _ => (fu F (N0 + 164) (.inr (12, [.ref (N0 + 165), .int 0, .ref (N0 + 181), .int 0, .int 0, .int 0, .int (-1), .ref (ql 24), .ref (N0 + 182), .ref (N0 + 187), .ref (N0 + 208), .ref (N0 + 209), .ref (N0 + 210), .ref (N0 + 211), .ref (N0 + 212), .int 0, .ref (N0 + 213), .ref (N0 + 218), .ref (N0 + 223), .ref (N0 + 224), .ref (N0 + 225), .ref (N0 + 226), .ref (N0 + 227), .int 0, .int 0, .ref (N0 + 228), .null, .int (-1), .int 0, .int 0, .int 0])))) (fun _ => n)) 0 0 (fA N0) := by
  refine fx_start 3 rfl rfl (Nat.le_of_ble_eq_true rfl) ?_ rfl
  intro p e s m below meth c ls S hr hlocks hin hG hl
  have hl : lv_has ls 3 [(0, .ref (N0 + 164)), (1, .int 1), (2, .int 0)] := hl
  have lt_h0 := hG.1.lt h0
  have lt_h1 := hG.1.lt h1
  have lt_h2 := hG.1.lt h2
  have lt_h3 := hG.1.lt h3
  refine lv_aload_n S.1 S.2.1 dX10_label_0 rfl (lv_at hl 0 rfl) ?_
  refine lv_iload_n S.1 S.2.1 dX10_label_1 rfl (lv_at hl 1 rfl) ?_
  refine lv_iload_n S.1 S.2.1 dX10_label_2 rfl (lv_at hl 2 rfl) ?_
  refine fx_cVi (As := [.int 1, .int 0]) (rest := []) S hG (k149_X10_isNowhere (by omega) h0 h1 h2) h0 rfl (cwV 2 S.2.2.2.2 gX10_label_X10_isNowhere rfl rfl rfl (by decide +kernel) ⟨Nat.le_of_ble_eq_true rfl, Nat.le_of_ble_eq_true rfl⟩) rfl hl.1 rfl (Nat.le_of_ble_eq_true rfl) dX10_label_3 ⟨Nat.le_of_ble_eq_true rfl, Nat.le_of_ble_eq_true rfl⟩ (fun rv_1 _ H locs hp hG => ?_)
  subst rv_1
  refine lv_if_eq (tgt := 13) S.1 S.2.1 dX10_label_6 (by decide) (fun _ => ?_) (fun c => absurd (by decide) c)
  refine lv_aload_n S.1 S.2.1 dX10_label_13 rfl (lv_at hl 0 rfl) ?_
  refine gx_get (C := RX10) (T := TX10) (N := 31) S hG fu_s i_X10_label_X10 rfl 0 (by decide) (by decide +kernel) rfl dX10_label_14 ?_
  refine lv_iload_n S.1 S.2.1 dX10_label_17 rfl (lv_at hl 1 rfl) ?_
  refine gx_aldq (x := (N0 + 171)) S hG 6 rfl (fu_at (by omega) h1) rfl (fin_l (by decide)) (rfl) dX10_label_18 ?_
  refine gx_getN (C := RX9) (T := TX9) (N := 5) S hG (fu_at (by omega) h2) i_X10_label_X9 rfl 0 (by decide) (List.mem_of_getElem? (i := 1) rfl) rfl dX10_label_19 ?_
  refine lv_iload_n S.1 S.2.1 dX10_label_22 rfl (lv_at hl 2 rfl) ?_
  refine gx_iald (v := 97) S hG 0 (fu_at (by omega) h3) rfl (fin_l (by decide)) (by decide) dX10_label_23 ?_
  refine lv_i2c (v := 97) S.1 S.2.1 dX10_label_24 (by decide) ?_
  exact fx_zret S hr (rfl) hlocks () hG (rfl) dX10_label_25
theorem k576_X7_label {n : Nat} {a2 : Int32} (g_a2_ge_1 : 1 ≤ a2) (hst : l.stackTraces = false) (hn : N0 + 231 ≤ n) (h0 : F N0 = some (.inr (9, [.ref (N0 + 1), .ref (N0 + 2), .ref (N0 + 11), .ref (N0 + 13), .ref (N0 + 63), .ref (N0 + 65), .ref (N0 + 85), .int (-1), .int (-1), .int 32]))) (h1 : F (N0 + 1) = some (.inl (cTr, 3, .inr (.inr (.inr (.inr (va_up (va_up (va_up (fun _ => none) 0 (some (N0 + 143))) 1 (some (N0 + 150))) 2 (some (N0 + 157))))))))) (h2 : F (N0 + 150) = some (.inr (7, [.ref (N0 + 151), .ref (N0 + 152), .ref (N0 + 153), .ref (N0 + 154), .ref (N0 + 155), .ref (N0 + 156), .int 1]))) : vx_Met l yX7_label wsX7_label ({ frames := 7, cells := 1, slots := 6, locals := 105 }) (va_Pc [.ref N0, .int 1, .int a2] (fP N0 D vwCl (fty cI cC cL cD cII cTr cTm cIt cB) (fen ql) F n)) (fNo N0 D vwCl (fty cI cC cL cD cII cTr cTm cIt cB) F n) (fXC N0 D vwCl (fty cI cC cL cD cII cTr cTm cIt cB) "java/lang/IndexOutOfBoundsException" F n) 1 6 (fA N0) := by
  refine fx_startX 3 rfl rfl (Nat.le_of_ble_eq_true rfl) ?_ rfl
  intro p e s m below meth c ls S htab hlocks hG hl
  have hl : lv_has ls 3 [(0, .ref N0), (1, .int 1), (2, .int a2)] := hl
  have lt_h0 := hG.1.lt h0
  have lt_h1 := hG.1.lt h1
  have lt_h2 := hG.1.lt h2
  refine lv_aload_n S.1 S.2.1 dX7_label_0 rfl (lv_at hl 0 rfl) ?_
  refine lv_iload_n S.1 S.2.1 dX7_label_1 rfl (lv_at hl 1 rfl) ?_
  refine lv_iload_n S.1 S.2.1 dX7_label_2 rfl (lv_at hl 2 rfl) ?_
  refine fx_xV (As := [.int 1, .int a2]) (rest := []) S hG (k175_X7_treeWith g_a2_ge_1 hst (by omega) h0 h1 h2) h0 rfl (cwV 2 S.2.2.2.2 gX7_label_X7_treeWith rfl rfl rfl (by decide +kernel) ⟨Nat.le_of_ble_eq_true rfl, Nat.le_of_ble_eq_true rfl⟩) rfl hl.1 rfl (Nat.le_of_ble_eq_true rfl) dX7_label_3 ⟨Nat.le_of_ble_eq_true rfl, Nat.le_of_ble_eq_true rfl⟩ (fun ceq_1 q_1 H locs n_2 hn_2 hG h1q_1 h2q_1 h3q_1 => ?_)
  exact fx_out htab hlocks hG (by omega) h1q_1 h2q_1 h3q_1 (by decide) (by decide)
theorem k577_L_label {n : Nat} {a2 : Int32} (g_a2_ge_1 : 1 ≤ a2) (hst : l.stackTraces = false) (hn : N0 + 231 ≤ n) (h0 : F N0 = some (.inr (9, [.ref (N0 + 1), .ref (N0 + 2), .ref (N0 + 11), .ref (N0 + 13), .ref (N0 + 63), .ref (N0 + 65), .ref (N0 + 85), .int (-1), .int (-1), .int 32]))) (h1 : F (N0 + 1) = some (.inl (cTr, 3, .inr (.inr (.inr (.inr (va_up (va_up (va_up (fun _ => none) 0 (some (N0 + 143))) 1 (some (N0 + 150))) 2 (some (N0 + 157))))))))) (h2 : F (N0 + 150) = some (.inr (7, [.ref (N0 + 151), .ref (N0 + 152), .ref (N0 + 153), .ref (N0 + 154), .ref (N0 + 155), .ref (N0 + 156), .int 1]))) : Met l yL_label wsL_label ({ frames := 8, cells := 1, slots := 6, locals := 127 }) (va_Pc [.ref N0, .int 1, .int a2, .ref (N0 + 229)] (fP N0 D vwCl (fty cI cC cL cD cII cTr cTm cIt cB) (fen ql) F n)) (fQi N0 D vwCl (fty cI cC cL cD cII cTr cTm cIt cB) (fun (r : Int32) (u : Nat) => r = 1 ∧ n ≤ u) (fun _ => F) (fun u => u)) 1 6 (fA N0) := by
  refine fx_startW (hh := [(0, 10, 13, 19)]) 5 rfl rfl (Nat.le_of_ble_eq_true rfl) ?_ rfl
  intro p e s m below meth c ls S htab hr hlocks hG hl
  have hl : lv_has ls 5 [(0, .ref N0), (1, .int 1), (2, .int a2), (3, .ref (N0 + 229))] := hl
  have lt_h0 := hG.1.lt h0
  have lt_h1 := hG.1.lt h1
  have lt_h2 := hG.1.lt h2
  refine lv_aload_n S.1 S.2.1 dL_label_0 rfl (lv_at hl 3 rfl) ?_
  refine lv_iconst (v := 0) S.1 S.2.1 dL_label_1 (by decide) ?_
  refine lv_aload_n S.1 S.2.1 dL_label_2 rfl (lv_at hl 0 rfl) ?_
  refine lv_iload_n S.1 S.2.1 dL_label_3 rfl (lv_at hl 1 rfl) ?_
  refine lv_iload_n S.1 S.2.1 dL_label_4 rfl (lv_at hl 2 rfl) ?_
  refine fx_xV (As := [.int 1, .int a2]) (rest := [.int 0, .ref (N0 + 229)]) S hG (k576_X7_label g_a2_ge_1 hst (by omega) h0 h1 h2) h0 rfl (cwV 2 S.2.2.2.2 gL_label_X7_label rfl rfl rfl (by decide +kernel) ⟨Nat.le_of_ble_eq_true rfl, Nat.le_of_ble_eq_true rfl⟩) rfl hl.1 rfl (Nat.le_of_ble_eq_true rfl) dL_label_5 ⟨Nat.le_of_ble_eq_true rfl, Nat.le_of_ble_eq_true rfl⟩ (fun ceq_1 q_1 H locs n_2 hn_2 hG h1q_1 h2q_1 h3q_1 => ?_)
  refine fx_catch (hh := [(0, 10, 13, 19)]) S htab hG h1q_1 h2q_1 h3q_1 [] ⟨0, 10, 13, 19⟩ [] rfl [] (fun z hz => absurd hz List.not_mem_nil) (by decide) (by decide) (by decide +kernel) (List.mem_of_getElem? (i := 2) rfl) ?_
  refine lv_astore (lv' := [(4, .ref q_1), (0, .ref N0), (1, .int 1), (2, .int a2), (3, .ref (N0 + 229))]) S.1 S.2.1 dL_label_13 hl (by decide) rfl (fun ls hl => ?_)
  refine lv_iconst (v := 1) S.1 S.2.1 dL_label_15 (by decide) ?_
  exact fx_iret S hr hlocks n_2 hG (⟨rfl, hn_2⟩) dL_label_16
theorem k578_X10_label {n : Nat} {a2 : Int32} (g_a2_ge_1 : 1 ≤ a2) (hn : N0 + 231 ≤ n) (h0 : F (N0 + 164) = some (.inr (12, [.ref (N0 + 165), .int 0, .ref (N0 + 181), .int 0, .int 0, .int 0, .int (-1), .ref (ql 24), .ref (N0 + 182), .ref (N0 + 187), .ref (N0 + 208), .ref (N0 + 209), .ref (N0 + 210), .ref (N0 + 211), .ref (N0 + 212), .int 0, .ref (N0 + 213), .ref (N0 + 218), .ref (N0 + 223), .ref (N0 + 224), .ref (N0 + 225), .ref (N0 + 226), .ref (N0 + 227), .int 0, .int 0, .ref (N0 + 228), .null, .int (-1), .int 0, .int 0, .int 0]))) (h1 : F (N0 + 165) = some (.inl (cTm, 3, .inr (.inr (.inr (.inr (va_up (va_up (va_up (fun _ => none) 0 (some (N0 + 166))) 1 (some (N0 + 171))) 2 (some (N0 + 176))))))))) (h2 : F (N0 + 171) = some (.inr (11, [.ref (N0 + 172), .ref (N0 + 173), .ref (N0 + 174), .ref (N0 + 175), .int 1]))) : Met l yX10_label wsX10_label ({ frames := 4, cells := 0, slots := 0, locals := 86 }) (va_Pc [.ref (N0 + 164), .int 1, .int a2] (fP N0 D vwCl (fty cI cC cL cD cII cTr cTm cIt cB) (fen ql) F n)) (fQi N0 D vwCl (fty cI cC cL cD cII cTr cTm cIt cB) (fun (r : Int32) (_ : Unit) => r = 0) (fun _ => (fu F (N0 + 164) (.inr (12, [.ref (N0 + 165), .int 1, .ref (N0 + 181), .int 0, .int 0, .int 0, .int (-1), .ref (ql 24), .ref (N0 + 182), .ref (N0 + 187), .ref (N0 + 208), .ref (N0 + 209), .ref (N0 + 210), .ref (N0 + 211), .ref (N0 + 212), .int 0, .ref (N0 + 213), .ref (N0 + 218), .ref (N0 + 223), .ref (N0 + 224), .ref (N0 + 225), .ref (N0 + 226), .ref (N0 + 227), .int 0, .int 0, .ref (N0 + 228), .null, .int (-1), .int 0, .int 0, .int 0])))) (fun _ => n)) 0 0 (fA N0) := by
  refine fx_start 3 rfl rfl (Nat.le_of_ble_eq_true rfl) ?_ rfl
  intro p e s m below meth c ls S hr hlocks hin hG hl
  have hl : lv_has ls 3 [(0, .ref (N0 + 164)), (1, .int 1), (2, .int a2)] := hl
  have lt_h0 := hG.1.lt h0
  have lt_h1 := hG.1.lt h1
  have lt_h2 := hG.1.lt h2
  refine lv_aload_n S.1 S.2.1 dX10_label_0 rfl (lv_at hl 0 rfl) ?_
  refine lv_iload_n S.1 S.2.1 dX10_label_1 rfl (lv_at hl 1 rfl) ?_
  refine lv_iload_n S.1 S.2.1 dX10_label_2 rfl (lv_at hl 2 rfl) ?_
  refine fx_cVi (As := [.int 1, .int a2]) (rest := []) S hG (k179_X10_isNowhere g_a2_ge_1 (by omega) h0 h1 h2) h0 rfl (cwV 2 S.2.2.2.2 gX10_label_X10_isNowhere rfl rfl rfl (by decide +kernel) ⟨Nat.le_of_ble_eq_true rfl, Nat.le_of_ble_eq_true rfl⟩) rfl hl.1 rfl (Nat.le_of_ble_eq_true rfl) dX10_label_3 ⟨Nat.le_of_ble_eq_true rfl, Nat.le_of_ble_eq_true rfl⟩ (fun rv_1 _ H locs hp hG => ?_)
  subst rv_1
  refine lv_if_eq (tgt := 13) S.1 S.2.1 dX10_label_6 (by decide) (fun c => absurd c (by decide)) (fun _ => ?_)
  refine lv_iconst (v := 0) S.1 S.2.1 dX10_label_9 (by decide) ?_
  refine lv_goto (tgt := 25) S.1 S.2.1 dX10_label_10 (by decide) ?_
  exact fx_zret S hr (rfl) hlocks () hG (rfl) dX10_label_25
theorem k579_X7_label {n : Nat} {a2 : Int32} (g_a2_le_m1 : a2 ≤ (-1)) (hst : l.stackTraces = false) (hn : N0 + 231 ≤ n) (h0 : F N0 = some (.inr (9, [.ref (N0 + 1), .ref (N0 + 2), .ref (N0 + 11), .ref (N0 + 13), .ref (N0 + 63), .ref (N0 + 65), .ref (N0 + 85), .int (-1), .int (-1), .int 32]))) (h1 : F (N0 + 1) = some (.inl (cTr, 3, .inr (.inr (.inr (.inr (va_up (va_up (va_up (fun _ => none) 0 (some (N0 + 143))) 1 (some (N0 + 150))) 2 (some (N0 + 157))))))))) (h2 : F (N0 + 157) = some (.inr (7, [.ref (N0 + 158), .ref (N0 + 159), .ref (N0 + 160), .ref (N0 + 161), .ref (N0 + 162), .ref (N0 + 163), .int 1]))) : vx_Met l yX7_label wsX7_label ({ frames := 7, cells := 1, slots := 6, locals := 105 }) (va_Pc [.ref N0, .int 2, .int a2] (fP N0 D vwCl (fty cI cC cL cD cII cTr cTm cIt cB) (fen ql) F n)) (fNo N0 D vwCl (fty cI cC cL cD cII cTr cTm cIt cB) F n) (fXC N0 D vwCl (fty cI cC cL cD cII cTr cTm cIt cB) "java/lang/IndexOutOfBoundsException" F n) 1 6 (fA N0) := by
  refine fx_startX 3 rfl rfl (Nat.le_of_ble_eq_true rfl) ?_ rfl
  intro p e s m below meth c ls S htab hlocks hG hl
  have hl : lv_has ls 3 [(0, .ref N0), (1, .int 2), (2, .int a2)] := hl
  have lt_h0 := hG.1.lt h0
  have lt_h1 := hG.1.lt h1
  have lt_h2 := hG.1.lt h2
  refine lv_aload_n S.1 S.2.1 dX7_label_0 rfl (lv_at hl 0 rfl) ?_
  refine lv_iload_n S.1 S.2.1 dX7_label_1 rfl (lv_at hl 1 rfl) ?_
  refine lv_iload_n S.1 S.2.1 dX7_label_2 rfl (lv_at hl 2 rfl) ?_
  refine fx_xV (As := [.int 2, .int a2]) (rest := []) S hG (k182_X7_treeWith g_a2_le_m1 hst (by omega) h0 h1 h2) h0 rfl (cwV 2 S.2.2.2.2 gX7_label_X7_treeWith rfl rfl rfl (by decide +kernel) ⟨Nat.le_of_ble_eq_true rfl, Nat.le_of_ble_eq_true rfl⟩) rfl hl.1 rfl (Nat.le_of_ble_eq_true rfl) dX7_label_3 ⟨Nat.le_of_ble_eq_true rfl, Nat.le_of_ble_eq_true rfl⟩ (fun ceq_1 q_1 H locs n_2 hn_2 hG h1q_1 h2q_1 h3q_1 => ?_)
  exact fx_out htab hlocks hG (by omega) h1q_1 h2q_1 h3q_1 (by decide) (by decide)
theorem k580_L_label {n : Nat} {a2 : Int32} (g_a2_le_m1 : a2 ≤ (-1)) (hst : l.stackTraces = false) (hn : N0 + 231 ≤ n) (h0 : F N0 = some (.inr (9, [.ref (N0 + 1), .ref (N0 + 2), .ref (N0 + 11), .ref (N0 + 13), .ref (N0 + 63), .ref (N0 + 65), .ref (N0 + 85), .int (-1), .int (-1), .int 32]))) (h1 : F (N0 + 1) = some (.inl (cTr, 3, .inr (.inr (.inr (.inr (va_up (va_up (va_up (fun _ => none) 0 (some (N0 + 143))) 1 (some (N0 + 150))) 2 (some (N0 + 157))))))))) (h2 : F (N0 + 157) = some (.inr (7, [.ref (N0 + 158), .ref (N0 + 159), .ref (N0 + 160), .ref (N0 + 161), .ref (N0 + 162), .ref (N0 + 163), .int 1]))) : Met l yL_label wsL_label ({ frames := 8, cells := 1, slots := 6, locals := 127 }) (va_Pc [.ref N0, .int 2, .int a2, .ref (N0 + 229)] (fP N0 D vwCl (fty cI cC cL cD cII cTr cTm cIt cB) (fen ql) F n)) (fQi N0 D vwCl (fty cI cC cL cD cII cTr cTm cIt cB) (fun (r : Int32) (u : Nat) => r = 1 ∧ n ≤ u) (fun _ => F) (fun u => u)) 1 6 (fA N0) := by
  refine fx_startW (hh := [(0, 10, 13, 19)]) 5 rfl rfl (Nat.le_of_ble_eq_true rfl) ?_ rfl
  intro p e s m below meth c ls S htab hr hlocks hG hl
  have hl : lv_has ls 5 [(0, .ref N0), (1, .int 2), (2, .int a2), (3, .ref (N0 + 229))] := hl
  have lt_h0 := hG.1.lt h0
  have lt_h1 := hG.1.lt h1
  have lt_h2 := hG.1.lt h2
  refine lv_aload_n S.1 S.2.1 dL_label_0 rfl (lv_at hl 3 rfl) ?_
  refine lv_iconst (v := 0) S.1 S.2.1 dL_label_1 (by decide) ?_
  refine lv_aload_n S.1 S.2.1 dL_label_2 rfl (lv_at hl 0 rfl) ?_
  refine lv_iload_n S.1 S.2.1 dL_label_3 rfl (lv_at hl 1 rfl) ?_
  refine lv_iload_n S.1 S.2.1 dL_label_4 rfl (lv_at hl 2 rfl) ?_
  refine fx_xV (As := [.int 2, .int a2]) (rest := [.int 0, .ref (N0 + 229)]) S hG (k579_X7_label g_a2_le_m1 hst (by omega) h0 h1 h2) h0 rfl (cwV 2 S.2.2.2.2 gL_label_X7_label rfl rfl rfl (by decide +kernel) ⟨Nat.le_of_ble_eq_true rfl, Nat.le_of_ble_eq_true rfl⟩) rfl hl.1 rfl (Nat.le_of_ble_eq_true rfl) dL_label_5 ⟨Nat.le_of_ble_eq_true rfl, Nat.le_of_ble_eq_true rfl⟩ (fun ceq_1 q_1 H locs n_2 hn_2 hG h1q_1 h2q_1 h3q_1 => ?_)
  refine fx_catch (hh := [(0, 10, 13, 19)]) S htab hG h1q_1 h2q_1 h3q_1 [] ⟨0, 10, 13, 19⟩ [] rfl [] (fun z hz => absurd hz List.not_mem_nil) (by decide) (by decide) (by decide +kernel) (List.mem_of_getElem? (i := 2) rfl) ?_
  refine lv_astore (lv' := [(4, .ref q_1), (0, .ref N0), (1, .int 2), (2, .int a2), (3, .ref (N0 + 229))]) S.1 S.2.1 dL_label_13 hl (by decide) rfl (fun ls hl => ?_)
  refine lv_iconst (v := 1) S.1 S.2.1 dL_label_15 (by decide) ?_
  exact fx_iret S hr hlocks n_2 hG (⟨rfl, hn_2⟩) dL_label_16
theorem k581_X10_label {n : Nat} {a2 : Int32} (g_a2_le_m1 : a2 ≤ (-1)) (hn : N0 + 231 ≤ n) (h0 : F (N0 + 164) = some (.inr (12, [.ref (N0 + 165), .int 0, .ref (N0 + 181), .int 0, .int 0, .int 0, .int (-1), .ref (ql 24), .ref (N0 + 182), .ref (N0 + 187), .ref (N0 + 208), .ref (N0 + 209), .ref (N0 + 210), .ref (N0 + 211), .ref (N0 + 212), .int 0, .ref (N0 + 213), .ref (N0 + 218), .ref (N0 + 223), .ref (N0 + 224), .ref (N0 + 225), .ref (N0 + 226), .ref (N0 + 227), .int 0, .int 0, .ref (N0 + 228), .null, .int (-1), .int 0, .int 0, .int 0]))) (h1 : F (N0 + 165) = some (.inl (cTm, 3, .inr (.inr (.inr (.inr (va_up (va_up (va_up (fun _ => none) 0 (some (N0 + 166))) 1 (some (N0 + 171))) 2 (some (N0 + 176))))))))) (h2 : F (N0 + 176) = some (.inr (11, [.ref (N0 + 177), .ref (N0 + 178), .ref (N0 + 179), .ref (N0 + 180), .int 1]))) : Met l yX10_label wsX10_label ({ frames := 4, cells := 0, slots := 0, locals := 86 }) (va_Pc [.ref (N0 + 164), .int 2, .int a2] (fP N0 D vwCl (fty cI cC cL cD cII cTr cTm cIt cB) (fen ql) F n)) (fQi N0 D vwCl (fty cI cC cL cD cII cTr cTm cIt cB) (fun (r : Int32) (_ : Unit) => r = 0) (fun _ => (fu F (N0 + 164) (.inr (12, [.ref (N0 + 165), .int 1, .ref (N0 + 181), .int 0, .int 0, .int 0, .int (-1), .ref (ql 24), .ref (N0 + 182), .ref (N0 + 187), .ref (N0 + 208), .ref (N0 + 209), .ref (N0 + 210), .ref (N0 + 211), .ref (N0 + 212), .int 0, .ref (N0 + 213), .ref (N0 + 218), .ref (N0 + 223), .ref (N0 + 224), .ref (N0 + 225), .ref (N0 + 226), .ref (N0 + 227), .int 0, .int 0, .ref (N0 + 228), .null, .int (-1), .int 0, .int 0, .int 0])))) (fun _ => n)) 0 0 (fA N0) := by
  refine fx_start 3 rfl rfl (Nat.le_of_ble_eq_true rfl) ?_ rfl
  intro p e s m below meth c ls S hr hlocks hin hG hl
  have hl : lv_has ls 3 [(0, .ref (N0 + 164)), (1, .int 2), (2, .int a2)] := hl
  have lt_h0 := hG.1.lt h0
  have lt_h1 := hG.1.lt h1
  have lt_h2 := hG.1.lt h2
  refine lv_aload_n S.1 S.2.1 dX10_label_0 rfl (lv_at hl 0 rfl) ?_
  refine lv_iload_n S.1 S.2.1 dX10_label_1 rfl (lv_at hl 1 rfl) ?_
  refine lv_iload_n S.1 S.2.1 dX10_label_2 rfl (lv_at hl 2 rfl) ?_
  refine fx_cVi (As := [.int 2, .int a2]) (rest := []) S hG (k186_X10_isNowhere g_a2_le_m1 (by omega) h0 h1 h2) h0 rfl (cwV 2 S.2.2.2.2 gX10_label_X10_isNowhere rfl rfl rfl (by decide +kernel) ⟨Nat.le_of_ble_eq_true rfl, Nat.le_of_ble_eq_true rfl⟩) rfl hl.1 rfl (Nat.le_of_ble_eq_true rfl) dX10_label_3 ⟨Nat.le_of_ble_eq_true rfl, Nat.le_of_ble_eq_true rfl⟩ (fun rv_1 _ H locs hp hG => ?_)
  subst rv_1
  refine lv_if_eq (tgt := 13) S.1 S.2.1 dX10_label_6 (by decide) (fun c => absurd c (by decide)) (fun _ => ?_)
  refine lv_iconst (v := 0) S.1 S.2.1 dX10_label_9 (by decide) ?_
  refine lv_goto (tgt := 25) S.1 S.2.1 dX10_label_10 (by decide) ?_
  exact fx_zret S hr (rfl) hlocks () hG (rfl) dX10_label_25
theorem k582_X7_label {n : Nat} (hn : N0 + 231 ≤ n) (h0 : F N0 = some (.inr (9, [.ref (N0 + 1), .ref (N0 + 2), .ref (N0 + 11), .ref (N0 + 13), .ref (N0 + 63), .ref (N0 + 65), .ref (N0 + 85), .int (-1), .int (-1), .int 32]))) (h1 : F (N0 + 1) = some (.inl (cTr, 3, .inr (.inr (.inr (.inr (va_up (va_up (va_up (fun _ => none) 0 (some (N0 + 143))) 1 (some (N0 + 150))) 2 (some (N0 + 157))))))))) (h2 : F (N0 + 157) = some (.inr (7, [.ref (N0 + 158), .ref (N0 + 159), .ref (N0 + 160), .ref (N0 + 161), .ref (N0 + 162), .ref (N0 + 163), .int 1]))) (h3 : F (N0 + 158) = some (.inl (cC, 20, .inl (upd (fun _ => 0) 0 97)))) : Met l yX7_label wsX7_label ({ frames := 2, cells := 0, slots := 0, locals := 44 }) (va_Pc [.ref N0, .int 2, .int 0] (fP N0 D vwCl (fty cI cC cL cD cII cTr cTm cIt cB) (fen ql) F n)) (fQi N0 D vwCl (fty cI cC cL cD cII cTr cTm cIt cB) (fun (r : Int32) (_ : Unit) => r = 97) (fun _ => F) (fun _ => n)) 0 0 (fA N0) := by
  refine fx_start 3 rfl rfl (Nat.le_of_ble_eq_true rfl) ?_ rfl
  intro p e s m below meth c ls S hr hlocks hin hG hl
  have hl : lv_has ls 3 [(0, .ref N0), (1, .int 2), (2, .int 0)] := hl
  have lt_h0 := hG.1.lt h0
  have lt_h1 := hG.1.lt h1
  have lt_h2 := hG.1.lt h2
  have lt_h3 := hG.1.lt h3
  refine lv_aload_n S.1 S.2.1 dX7_label_0 rfl (lv_at hl 0 rfl) ?_
  refine lv_iload_n S.1 S.2.1 dX7_label_1 rfl (lv_at hl 1 rfl) ?_
  refine lv_iload_n S.1 S.2.1 dX7_label_2 rfl (lv_at hl 2 rfl) ?_
  refine fx_cVr (As := [.int 2, .int 0]) (rest := []) S hG (k189_X7_treeWith (by omega) h0 h1 h2) h0 rfl (cwV 2 S.2.2.2.2 gX7_label_X7_treeWith rfl rfl rfl (by decide +kernel) ⟨Nat.le_of_ble_eq_true rfl, Nat.le_of_ble_eq_true rfl⟩) rfl hl.1 rfl (Nat.le_of_ble_eq_true rfl) dX7_label_3 ⟨Nat.le_of_ble_eq_true rfl, Nat.le_of_ble_eq_true rfl⟩ (fun rv_1 _ H locs hp hG => ?_)
  subst rv_1
  refine gx_get (C := RX5) (T := TX5) (N := 7) S hG h2 i_X7_label_X5 rfl 0 (by decide) (by decide +kernel) rfl dX7_label_6 ?_
  refine lv_iload_n S.1 S.2.1 dX7_label_9 rfl (lv_at hl 2 rfl) ?_
  refine gx_cald (v := 97) S hG 1 h3 rfl (fin_l (by decide)) (by decide) dX7_label_10 ?_
  exact fx_zret S hr (rfl) hlocks () hG (rfl) dX7_label_11
theorem k583_L_label {n : Nat} (hn : N0 + 231 ≤ n) (h0 : F N0 = some (.inr (9, [.ref (N0 + 1), .ref (N0 + 2), .ref (N0 + 11), .ref (N0 + 13), .ref (N0 + 63), .ref (N0 + 65), .ref (N0 + 85), .int (-1), .int (-1), .int 32]))) (h1 : F (N0 + 1) = some (.inl (cTr, 3, .inr (.inr (.inr (.inr (va_up (va_up (va_up (fun _ => none) 0 (some (N0 + 143))) 1 (some (N0 + 150))) 2 (some (N0 + 157))))))))) (h2 : F (N0 + 157) = some (.inr (7, [.ref (N0 + 158), .ref (N0 + 159), .ref (N0 + 160), .ref (N0 + 161), .ref (N0 + 162), .ref (N0 + 163), .int 1]))) (h3 : F (N0 + 158) = some (.inl (cC, 20, .inl (upd (fun _ => 0) 0 97)))) (h4 : F (N0 + 229) = some (.inl (cL, 1, .inr (.inl (fun _ => 0))))) : Met l yL_label wsL_label ({ frames := 3, cells := 0, slots := 0, locals := 66 }) (va_Pc [.ref N0, .int 2, .int 0, .ref (N0 + 229)] (fP N0 D vwCl (fty cI cC cL cD cII cTr cTm cIt cB) (fen ql) F n)) (fQi N0 D vwCl (fty cI cC cL cD cII cTr cTm cIt cB) (fun (r : Int32) (_ : Unit) => r = 0) (fun _ => (fu F (N0 + 229) (.inl (cL, 1, .inr (.inl (vp_updL (fun _ => 0) 0 97)))))) (fun _ => n)) 0 0 (fA N0) := by
  refine fx_startW (hh := [(0, 10, 13, 19)]) 5 rfl rfl (Nat.le_of_ble_eq_true rfl) ?_ rfl
  intro p e s m below meth c ls S htab hr hlocks hG hl
  have hl : lv_has ls 5 [(0, .ref N0), (1, .int 2), (2, .int 0), (3, .ref (N0 + 229))] := hl
  have lt_h0 := hG.1.lt h0
  have lt_h1 := hG.1.lt h1
  have lt_h2 := hG.1.lt h2
  have lt_h3 := hG.1.lt h3
  have lt_h4 := hG.1.lt h4
  refine lv_aload_n S.1 S.2.1 dL_label_0 rfl (lv_at hl 3 rfl) ?_
  refine lv_iconst (v := 0) S.1 S.2.1 dL_label_1 (by decide) ?_
  refine lv_aload_n S.1 S.2.1 dL_label_2 rfl (lv_at hl 0 rfl) ?_
  refine lv_iload_n S.1 S.2.1 dL_label_3 rfl (lv_at hl 1 rfl) ?_
  refine lv_iload_n S.1 S.2.1 dL_label_4 rfl (lv_at hl 2 rfl) ?_
  refine fx_cVi (As := [.int 2, .int 0]) (rest := [.int 0, .ref (N0 + 229)]) S hG (k582_X7_label (by omega) h0 h1 h2 h3) h0 rfl (cwV 2 S.2.2.2.2 gL_label_X7_label rfl rfl rfl (by decide +kernel) ⟨Nat.le_of_ble_eq_true rfl, Nat.le_of_ble_eq_true rfl⟩) rfl hl.1 rfl (Nat.le_of_ble_eq_true rfl) dL_label_5 ⟨Nat.le_of_ble_eq_true rfl, Nat.le_of_ble_eq_true rfl⟩ (fun rv_1 _ H locs hp hG => ?_)
  subst rv_1
  refine lv_i2l (v := 97) S.1 S.2.1 dL_label_8 (by decide) ?_
  refine gx_last (f' := vp_updL (fun _ => 0) 0 97) S hG 2 h4 rfl (fin_l (by decide)) dL_label_9 rfl (fun H locs hG => ?_)
  refine lv_goto (tgt := 17) S.1 S.2.1 dL_label_10 (by decide) ?_
  refine lv_iconst (v := 0) S.1 S.2.1 dL_label_17 (by decide) ?_
  exact fx_iret S hr hlocks () hG (rfl) dL_label_18
theorem k584_X10_label {n : Nat} (hn : N0 + 231 ≤ n) (h0 : F (N0 + 164) = some (.inr (12, [.ref (N0 + 165), .int 0, .ref (N0 + 181), .int 0, .int 0, .int 0, .int (-1), .ref (ql 24), .ref (N0 + 182), .ref (N0 + 187), .ref (N0 + 208), .ref (N0 + 209), .ref (N0 + 210), .ref (N0 + 211), .ref (N0 + 212), .int 0, .ref (N0 + 213), .ref (N0 + 218), .ref (N0 + 223), .ref (N0 + 224), .ref (N0 + 225), .ref (N0 + 226), .ref (N0 + 227), .int 0, .int 0, .ref (N0 + 228), .null, .int (-1), .int 0, .int 0, .int 0]))) (h1 : F (N0 + 165) = some (.inl (cTm, 3, .inr (.inr (.inr (.inr (va_up (va_up (va_up (fun _ => none) 0 (some (N0 + 166))) 1 (some (N0 + 171))) 2 (some (N0 + 176))))))))) (h2 : F (N0 + 176) = some (.inr (11, [.ref (N0 + 177), .ref (N0 + 178), .ref (N0 + 179), .ref (N0 + 180), .int 1]))) (h3 : F (N0 + 177) = some (.inl (cI, 20, .inl (upd (fun _ => 0) 0 97)))) : Met l yX10_label wsX10_label ({ frames := 4, cells := 0, slots := 0, locals := 86 }) (va_Pc [.ref (N0 + 164), .int 2, .int 0] (fP N0 D vwCl (fty cI cC cL cD cII cTr cTm cIt cB) (fen ql) F n)) (fQi N0 D vwCl (fty cI cC cL cD cII cTr cTm cIt cB) (fun (r : Int32) (_ : Unit) => r = 97) (fun _ => (fu F (N0 + 164) (.inr (12, [.ref (N0 + 165), .int 0, .ref (N0 + 181), .int 0, .int 0, .int 0, .int (-1), .ref (ql 24), .ref (N0 + 182), .ref (N0 + 187), .ref (N0 + 208), .ref (N0 + 209), .ref (N0 + 210), .ref (N0 + 211), .ref (N0 + 212), .int 0, .ref (N0 + 213), .ref (N0 + 218), .ref (N0 + 223), .ref (N0 + 224), .ref (N0 + 225), .ref (N0 + 226), .ref (N0 + 227), .int 0, .int 0, .ref (N0 + 228), .null, .int (-1), .int 0, .int 0, .int 0])))) (fun _ => n)) 0 0 (fA N0) := by
  refine fx_start 3 rfl rfl (Nat.le_of_ble_eq_true rfl) ?_ rfl
  intro p e s m below meth c ls S hr hlocks hin hG hl
  have hl : lv_has ls 3 [(0, .ref (N0 + 164)), (1, .int 2), (2, .int 0)] := hl
  have lt_h0 := hG.1.lt h0
  have lt_h1 := hG.1.lt h1
  have lt_h2 := hG.1.lt h2
  have lt_h3 := hG.1.lt h3
  refine lv_aload_n S.1 S.2.1 dX10_label_0 rfl (lv_at hl 0 rfl) ?_
  refine lv_iload_n S.1 S.2.1 dX10_label_1 rfl (lv_at hl 1 rfl) ?_
  refine lv_iload_n S.1 S.2.1 dX10_label_2 rfl (lv_at hl 2 rfl) ?_
  refine fx_cVi (As := [.int 2, .int 0]) (rest := []) S hG (k193_X10_isNowhere (by omega) h0 h1 h2) h0 rfl (cwV 2 S.2.2.2.2 gX10_label_X10_isNowhere rfl rfl rfl (by decide +kernel) ⟨Nat.le_of_ble_eq_true rfl, Nat.le_of_ble_eq_true rfl⟩) rfl hl.1 rfl (Nat.le_of_ble_eq_true rfl) dX10_label_3 ⟨Nat.le_of_ble_eq_true rfl, Nat.le_of_ble_eq_true rfl⟩ (fun rv_1 _ H locs hp hG => ?_)
  subst rv_1
  refine lv_if_eq (tgt := 13) S.1 S.2.1 dX10_label_6 (by decide) (fun _ => ?_) (fun c => absurd (by decide) c)
  refine lv_aload_n S.1 S.2.1 dX10_label_13 rfl (lv_at hl 0 rfl) ?_
  refine gx_get (C := RX10) (T := TX10) (N := 31) S hG fu_s i_X10_label_X10 rfl 0 (by decide) (by decide +kernel) rfl dX10_label_14 ?_
  refine lv_iload_n S.1 S.2.1 dX10_label_17 rfl (lv_at hl 1 rfl) ?_
  refine gx_aldq (x := (N0 + 176)) S hG 6 rfl (fu_at (by omega) h1) rfl (fin_l (by decide)) (rfl) dX10_label_18 ?_
  refine gx_getN (C := RX9) (T := TX9) (N := 5) S hG (fu_at (by omega) h2) i_X10_label_X9 rfl 0 (by decide) (List.mem_of_getElem? (i := 1) rfl) rfl dX10_label_19 ?_
  refine lv_iload_n S.1 S.2.1 dX10_label_22 rfl (lv_at hl 2 rfl) ?_
  refine gx_iald (v := 97) S hG 0 (fu_at (by omega) h3) rfl (fin_l (by decide)) (by decide) dX10_label_23 ?_
  refine lv_i2c (v := 97) S.1 S.2.1 dX10_label_24 (by decide) ?_
  exact fx_zret S hr (rfl) hlocks () hG (rfl) dX10_label_25
theorem k585_X7_label {n : Nat} {a2 : Int32} (g_a2_ge_1 : 1 ≤ a2) (hst : l.stackTraces = false) (hn : N0 + 231 ≤ n) (h0 : F N0 = some (.inr (9, [.ref (N0 + 1), .ref (N0 + 2), .ref (N0 + 11), .ref (N0 + 13), .ref (N0 + 63), .ref (N0 + 65), .ref (N0 + 85), .int (-1), .int (-1), .int 32]))) (h1 : F (N0 + 1) = some (.inl (cTr, 3, .inr (.inr (.inr (.inr (va_up (va_up (va_up (fun _ => none) 0 (some (N0 + 143))) 1 (some (N0 + 150))) 2 (some (N0 + 157))))))))) (h2 : F (N0 + 157) = some (.inr (7, [.ref (N0 + 158), .ref (N0 + 159), .ref (N0 + 160), .ref (N0 + 161), .ref (N0 + 162), .ref (N0 + 163), .int 1]))) : vx_Met l yX7_label wsX7_label ({ frames := 7, cells := 1, slots := 6, locals := 105 }) (va_Pc [.ref N0, .int 2, .int a2] (fP N0 D vwCl (fty cI cC cL cD cII cTr cTm cIt cB) (fen ql) F n)) (fNo N0 D vwCl (fty cI cC cL cD cII cTr cTm cIt cB) F n) (fXC N0 D vwCl (fty cI cC cL cD cII cTr cTm cIt cB) "java/lang/IndexOutOfBoundsException" F n) 1 6 (fA N0) := by
  refine fx_startX 3 rfl rfl (Nat.le_of_ble_eq_true rfl) ?_ rfl
  intro p e s m below meth c ls S htab hlocks hG hl
  have hl : lv_has ls 3 [(0, .ref N0), (1, .int 2), (2, .int a2)] := hl
  have lt_h0 := hG.1.lt h0
  have lt_h1 := hG.1.lt h1
  have lt_h2 := hG.1.lt h2
  refine lv_aload_n S.1 S.2.1 dX7_label_0 rfl (lv_at hl 0 rfl) ?_
  refine lv_iload_n S.1 S.2.1 dX7_label_1 rfl (lv_at hl 1 rfl) ?_
  refine lv_iload_n S.1 S.2.1 dX7_label_2 rfl (lv_at hl 2 rfl) ?_
  refine fx_xV (As := [.int 2, .int a2]) (rest := []) S hG (k219_X7_treeWith g_a2_ge_1 hst (by omega) h0 h1 h2) h0 rfl (cwV 2 S.2.2.2.2 gX7_label_X7_treeWith rfl rfl rfl (by decide +kernel) ⟨Nat.le_of_ble_eq_true rfl, Nat.le_of_ble_eq_true rfl⟩) rfl hl.1 rfl (Nat.le_of_ble_eq_true rfl) dX7_label_3 ⟨Nat.le_of_ble_eq_true rfl, Nat.le_of_ble_eq_true rfl⟩ (fun ceq_1 q_1 H locs n_2 hn_2 hG h1q_1 h2q_1 h3q_1 => ?_)
  exact fx_out htab hlocks hG (by omega) h1q_1 h2q_1 h3q_1 (by decide) (by decide)
theorem k586_L_label {n : Nat} {a2 : Int32} (g_a2_ge_1 : 1 ≤ a2) (hst : l.stackTraces = false) (hn : N0 + 231 ≤ n) (h0 : F N0 = some (.inr (9, [.ref (N0 + 1), .ref (N0 + 2), .ref (N0 + 11), .ref (N0 + 13), .ref (N0 + 63), .ref (N0 + 65), .ref (N0 + 85), .int (-1), .int (-1), .int 32]))) (h1 : F (N0 + 1) = some (.inl (cTr, 3, .inr (.inr (.inr (.inr (va_up (va_up (va_up (fun _ => none) 0 (some (N0 + 143))) 1 (some (N0 + 150))) 2 (some (N0 + 157))))))))) (h2 : F (N0 + 157) = some (.inr (7, [.ref (N0 + 158), .ref (N0 + 159), .ref (N0 + 160), .ref (N0 + 161), .ref (N0 + 162), .ref (N0 + 163), .int 1]))) : Met l yL_label wsL_label ({ frames := 8, cells := 1, slots := 6, locals := 127 }) (va_Pc [.ref N0, .int 2, .int a2, .ref (N0 + 229)] (fP N0 D vwCl (fty cI cC cL cD cII cTr cTm cIt cB) (fen ql) F n)) (fQi N0 D vwCl (fty cI cC cL cD cII cTr cTm cIt cB) (fun (r : Int32) (u : Nat) => r = 1 ∧ n ≤ u) (fun _ => F) (fun u => u)) 1 6 (fA N0) := by
  refine fx_startW (hh := [(0, 10, 13, 19)]) 5 rfl rfl (Nat.le_of_ble_eq_true rfl) ?_ rfl
  intro p e s m below meth c ls S htab hr hlocks hG hl
  have hl : lv_has ls 5 [(0, .ref N0), (1, .int 2), (2, .int a2), (3, .ref (N0 + 229))] := hl
  have lt_h0 := hG.1.lt h0
  have lt_h1 := hG.1.lt h1
  have lt_h2 := hG.1.lt h2
  refine lv_aload_n S.1 S.2.1 dL_label_0 rfl (lv_at hl 3 rfl) ?_
  refine lv_iconst (v := 0) S.1 S.2.1 dL_label_1 (by decide) ?_
  refine lv_aload_n S.1 S.2.1 dL_label_2 rfl (lv_at hl 0 rfl) ?_
  refine lv_iload_n S.1 S.2.1 dL_label_3 rfl (lv_at hl 1 rfl) ?_
  refine lv_iload_n S.1 S.2.1 dL_label_4 rfl (lv_at hl 2 rfl) ?_
  refine fx_xV (As := [.int 2, .int a2]) (rest := [.int 0, .ref (N0 + 229)]) S hG (k585_X7_label g_a2_ge_1 hst (by omega) h0 h1 h2) h0 rfl (cwV 2 S.2.2.2.2 gL_label_X7_label rfl rfl rfl (by decide +kernel) ⟨Nat.le_of_ble_eq_true rfl, Nat.le_of_ble_eq_true rfl⟩) rfl hl.1 rfl (Nat.le_of_ble_eq_true rfl) dL_label_5 ⟨Nat.le_of_ble_eq_true rfl, Nat.le_of_ble_eq_true rfl⟩ (fun ceq_1 q_1 H locs n_2 hn_2 hG h1q_1 h2q_1 h3q_1 => ?_)
  refine fx_catch (hh := [(0, 10, 13, 19)]) S htab hG h1q_1 h2q_1 h3q_1 [] ⟨0, 10, 13, 19⟩ [] rfl [] (fun z hz => absurd hz List.not_mem_nil) (by decide) (by decide) (by decide +kernel) (List.mem_of_getElem? (i := 2) rfl) ?_
  refine lv_astore (lv' := [(4, .ref q_1), (0, .ref N0), (1, .int 2), (2, .int a2), (3, .ref (N0 + 229))]) S.1 S.2.1 dL_label_13 hl (by decide) rfl (fun ls hl => ?_)
  refine lv_iconst (v := 1) S.1 S.2.1 dL_label_15 (by decide) ?_
  exact fx_iret S hr hlocks n_2 hG (⟨rfl, hn_2⟩) dL_label_16
theorem k587_X10_label {n : Nat} {a2 : Int32} (g_a2_ge_1 : 1 ≤ a2) (hn : N0 + 231 ≤ n) (h0 : F (N0 + 164) = some (.inr (12, [.ref (N0 + 165), .int 0, .ref (N0 + 181), .int 0, .int 0, .int 0, .int (-1), .ref (ql 24), .ref (N0 + 182), .ref (N0 + 187), .ref (N0 + 208), .ref (N0 + 209), .ref (N0 + 210), .ref (N0 + 211), .ref (N0 + 212), .int 0, .ref (N0 + 213), .ref (N0 + 218), .ref (N0 + 223), .ref (N0 + 224), .ref (N0 + 225), .ref (N0 + 226), .ref (N0 + 227), .int 0, .int 0, .ref (N0 + 228), .null, .int (-1), .int 0, .int 0, .int 0]))) (h1 : F (N0 + 165) = some (.inl (cTm, 3, .inr (.inr (.inr (.inr (va_up (va_up (va_up (fun _ => none) 0 (some (N0 + 166))) 1 (some (N0 + 171))) 2 (some (N0 + 176))))))))) (h2 : F (N0 + 176) = some (.inr (11, [.ref (N0 + 177), .ref (N0 + 178), .ref (N0 + 179), .ref (N0 + 180), .int 1]))) : Met l yX10_label wsX10_label ({ frames := 4, cells := 0, slots := 0, locals := 86 }) (va_Pc [.ref (N0 + 164), .int 2, .int a2] (fP N0 D vwCl (fty cI cC cL cD cII cTr cTm cIt cB) (fen ql) F n)) (fQi N0 D vwCl (fty cI cC cL cD cII cTr cTm cIt cB) (fun (r : Int32) (_ : Unit) => r = 0) (fun _ => (fu F (N0 + 164) (.inr (12, [.ref (N0 + 165), .int 1, .ref (N0 + 181), .int 0, .int 0, .int 0, .int (-1), .ref (ql 24), .ref (N0 + 182), .ref (N0 + 187), .ref (N0 + 208), .ref (N0 + 209), .ref (N0 + 210), .ref (N0 + 211), .ref (N0 + 212), .int 0, .ref (N0 + 213), .ref (N0 + 218), .ref (N0 + 223), .ref (N0 + 224), .ref (N0 + 225), .ref (N0 + 226), .ref (N0 + 227), .int 0, .int 0, .ref (N0 + 228), .null, .int (-1), .int 0, .int 0, .int 0])))) (fun _ => n)) 0 0 (fA N0) := by
  refine fx_start 3 rfl rfl (Nat.le_of_ble_eq_true rfl) ?_ rfl
  intro p e s m below meth c ls S hr hlocks hin hG hl
  have hl : lv_has ls 3 [(0, .ref (N0 + 164)), (1, .int 2), (2, .int a2)] := hl
  have lt_h0 := hG.1.lt h0
  have lt_h1 := hG.1.lt h1
  have lt_h2 := hG.1.lt h2
  refine lv_aload_n S.1 S.2.1 dX10_label_0 rfl (lv_at hl 0 rfl) ?_
  refine lv_iload_n S.1 S.2.1 dX10_label_1 rfl (lv_at hl 1 rfl) ?_
  refine lv_iload_n S.1 S.2.1 dX10_label_2 rfl (lv_at hl 2 rfl) ?_
  refine fx_cVi (As := [.int 2, .int a2]) (rest := []) S hG (k223_X10_isNowhere g_a2_ge_1 (by omega) h0 h1 h2) h0 rfl (cwV 2 S.2.2.2.2 gX10_label_X10_isNowhere rfl rfl rfl (by decide +kernel) ⟨Nat.le_of_ble_eq_true rfl, Nat.le_of_ble_eq_true rfl⟩) rfl hl.1 rfl (Nat.le_of_ble_eq_true rfl) dX10_label_3 ⟨Nat.le_of_ble_eq_true rfl, Nat.le_of_ble_eq_true rfl⟩ (fun rv_1 _ H locs hp hG => ?_)
  subst rv_1
  refine lv_if_eq (tgt := 13) S.1 S.2.1 dX10_label_6 (by decide) (fun c => absurd c (by decide)) (fun _ => ?_)
  refine lv_iconst (v := 0) S.1 S.2.1 dX10_label_9 (by decide) ?_
  refine lv_goto (tgt := 25) S.1 S.2.1 dX10_label_10 (by decide) ?_
  exact fx_zret S hr (rfl) hlocks () hG (rfl) dX10_label_25
theorem k588_X7_label {n : Nat} {a1 : Int32} {a2 : Int32} (g_a1_ge_3 : 3 ≤ a1) (hst : l.stackTraces = false) (hn : N0 + 231 ≤ n) (h0 : F N0 = some (.inr (9, [.ref (N0 + 1), .ref (N0 + 2), .ref (N0 + 11), .ref (N0 + 13), .ref (N0 + 63), .ref (N0 + 65), .ref (N0 + 85), .int (-1), .int (-1), .int 32]))) : vx_Met l yX7_label wsX7_label ({ frames := 8, cells := 1, slots := 6, locals := 126 }) (va_Pc [.ref N0, .int a1, .int a2] (fP N0 D vwCl (fty cI cC cL cD cII cTr cTm cIt cB) (fen ql) F n)) (fNo N0 D vwCl (fty cI cC cL cD cII cTr cTm cIt cB) F n) (fXC N0 D vwCl (fty cI cC cL cD cII cTr cTm cIt cB) "java/lang/IndexOutOfBoundsException" F n) 1 6 (fA N0) := by
  refine fx_startX 3 rfl rfl (Nat.le_of_ble_eq_true rfl) ?_ rfl
  intro p e s m below meth c ls S htab hlocks hG hl
  have hl : lv_has ls 3 [(0, .ref N0), (1, .int a1), (2, .int a2)] := hl
  have lt_h0 := hG.1.lt h0
  refine lv_aload_n S.1 S.2.1 dX7_label_0 rfl (lv_at hl 0 rfl) ?_
  refine lv_iload_n S.1 S.2.1 dX7_label_1 rfl (lv_at hl 1 rfl) ?_
  refine lv_iload_n S.1 S.2.1 dX7_label_2 rfl (lv_at hl 2 rfl) ?_
  refine fx_xV (As := [.int a1, .int a2]) (rest := []) S hG (k225_X7_treeWith g_a1_ge_3 hst (by omega) h0) h0 rfl (cwV 2 S.2.2.2.2 gX7_label_X7_treeWith rfl rfl rfl (by decide +kernel) ⟨Nat.le_of_ble_eq_true rfl, Nat.le_of_ble_eq_true rfl⟩) rfl hl.1 rfl (Nat.le_of_ble_eq_true rfl) dX7_label_3 ⟨Nat.le_of_ble_eq_true rfl, Nat.le_of_ble_eq_true rfl⟩ (fun ceq_1 q_1 H locs n_2 hn_2 hG h1q_1 h2q_1 h3q_1 => ?_)
  exact fx_out htab hlocks hG (by omega) h1q_1 h2q_1 h3q_1 (by decide) (by decide)
theorem k589_L_label {n : Nat} {a1 : Int32} {a2 : Int32} (g_a1_ge_3 : 3 ≤ a1) (hst : l.stackTraces = false) (hn : N0 + 231 ≤ n) (h0 : F N0 = some (.inr (9, [.ref (N0 + 1), .ref (N0 + 2), .ref (N0 + 11), .ref (N0 + 13), .ref (N0 + 63), .ref (N0 + 65), .ref (N0 + 85), .int (-1), .int (-1), .int 32]))) : Met l yL_label wsL_label ({ frames := 9, cells := 1, slots := 6, locals := 148 }) (va_Pc [.ref N0, .int a1, .int a2, .ref (N0 + 229)] (fP N0 D vwCl (fty cI cC cL cD cII cTr cTm cIt cB) (fen ql) F n)) (fQi N0 D vwCl (fty cI cC cL cD cII cTr cTm cIt cB) (fun (r : Int32) (u : Nat) => r = 1 ∧ n ≤ u) (fun _ => F) (fun u => u)) 1 6 (fA N0) := by
  refine fx_startW (hh := [(0, 10, 13, 19)]) 5 rfl rfl (Nat.le_of_ble_eq_true rfl) ?_ rfl
  intro p e s m below meth c ls S htab hr hlocks hG hl
  have hl : lv_has ls 5 [(0, .ref N0), (1, .int a1), (2, .int a2), (3, .ref (N0 + 229))] := hl
  have lt_h0 := hG.1.lt h0
  refine lv_aload_n S.1 S.2.1 dL_label_0 rfl (lv_at hl 3 rfl) ?_
  refine lv_iconst (v := 0) S.1 S.2.1 dL_label_1 (by decide) ?_
  refine lv_aload_n S.1 S.2.1 dL_label_2 rfl (lv_at hl 0 rfl) ?_
  refine lv_iload_n S.1 S.2.1 dL_label_3 rfl (lv_at hl 1 rfl) ?_
  refine lv_iload_n S.1 S.2.1 dL_label_4 rfl (lv_at hl 2 rfl) ?_
  refine fx_xV (As := [.int a1, .int a2]) (rest := [.int 0, .ref (N0 + 229)]) S hG (k588_X7_label g_a1_ge_3 hst (by omega) h0) h0 rfl (cwV 2 S.2.2.2.2 gL_label_X7_label rfl rfl rfl (by decide +kernel) ⟨Nat.le_of_ble_eq_true rfl, Nat.le_of_ble_eq_true rfl⟩) rfl hl.1 rfl (Nat.le_of_ble_eq_true rfl) dL_label_5 ⟨Nat.le_of_ble_eq_true rfl, Nat.le_of_ble_eq_true rfl⟩ (fun ceq_1 q_1 H locs n_2 hn_2 hG h1q_1 h2q_1 h3q_1 => ?_)
  refine fx_catch (hh := [(0, 10, 13, 19)]) S htab hG h1q_1 h2q_1 h3q_1 [] ⟨0, 10, 13, 19⟩ [] rfl [] (fun z hz => absurd hz List.not_mem_nil) (by decide) (by decide) (by decide +kernel) (List.mem_of_getElem? (i := 2) rfl) ?_
  refine lv_astore (lv' := [(4, .ref q_1), (0, .ref N0), (1, .int a1), (2, .int a2), (3, .ref (N0 + 229))]) S.1 S.2.1 dL_label_13 hl (by decide) rfl (fun ls hl => ?_)
  refine lv_iconst (v := 1) S.1 S.2.1 dL_label_15 (by decide) ?_
  exact fx_iret S hr hlocks n_2 hG (⟨rfl, hn_2⟩) dL_label_16
theorem k590_X10_label {n : Nat} {a1 : Int32} {a2 : Int32} (g_a1_ge_3 : 3 ≤ a1) (hn : N0 + 231 ≤ n) (h0 : F (N0 + 164) = some (.inr (12, [.ref (N0 + 165), .int 0, .ref (N0 + 181), .int 0, .int 0, .int 0, .int (-1), .ref (ql 24), .ref (N0 + 182), .ref (N0 + 187), .ref (N0 + 208), .ref (N0 + 209), .ref (N0 + 210), .ref (N0 + 211), .ref (N0 + 212), .int 0, .ref (N0 + 213), .ref (N0 + 218), .ref (N0 + 223), .ref (N0 + 224), .ref (N0 + 225), .ref (N0 + 226), .ref (N0 + 227), .int 0, .int 0, .ref (N0 + 228), .null, .int (-1), .int 0, .int 0, .int 0]))) : Met l yX10_label wsX10_label ({ frames := 4, cells := 0, slots := 0, locals := 86 }) (va_Pc [.ref (N0 + 164), .int a1, .int a2] (fP N0 D vwCl (fty cI cC cL cD cII cTr cTm cIt cB) (fen ql) F n)) (fQi N0 D vwCl (fty cI cC cL cD cII cTr cTm cIt cB) (fun (r : Int32) (_ : Unit) => r = 0) (fun _ => (fu F (N0 + 164) (.inr (12, [.ref (N0 + 165), .int 1, .ref (N0 + 181), .int 0, .int 0, .int 0, .int (-1), .ref (ql 24), .ref (N0 + 182), .ref (N0 + 187), .ref (N0 + 208), .ref (N0 + 209), .ref (N0 + 210), .ref (N0 + 211), .ref (N0 + 212), .int 0, .ref (N0 + 213), .ref (N0 + 218), .ref (N0 + 223), .ref (N0 + 224), .ref (N0 + 225), .ref (N0 + 226), .ref (N0 + 227), .int 0, .int 0, .ref (N0 + 228), .null, .int (-1), .int 0, .int 0, .int 0])))) (fun _ => n)) 0 0 (fA N0) := by
  refine fx_start 3 rfl rfl (Nat.le_of_ble_eq_true rfl) ?_ rfl
  intro p e s m below meth c ls S hr hlocks hin hG hl
  have hl : lv_has ls 3 [(0, .ref (N0 + 164)), (1, .int a1), (2, .int a2)] := hl
  have lt_h0 := hG.1.lt h0
  refine lv_aload_n S.1 S.2.1 dX10_label_0 rfl (lv_at hl 0 rfl) ?_
  refine lv_iload_n S.1 S.2.1 dX10_label_1 rfl (lv_at hl 1 rfl) ?_
  refine lv_iload_n S.1 S.2.1 dX10_label_2 rfl (lv_at hl 2 rfl) ?_
  refine fx_cVi (As := [.int a1, .int a2]) (rest := []) S hG (k229_X10_isNowhere g_a1_ge_3 (by omega) h0) h0 rfl (cwV 2 S.2.2.2.2 gX10_label_X10_isNowhere rfl rfl rfl (by decide +kernel) ⟨Nat.le_of_ble_eq_true rfl, Nat.le_of_ble_eq_true rfl⟩) rfl hl.1 rfl (Nat.le_of_ble_eq_true rfl) dX10_label_3 ⟨Nat.le_of_ble_eq_true rfl, Nat.le_of_ble_eq_true rfl⟩ (fun rv_1 _ H locs hp hG => ?_)
  subst rv_1
  refine lv_if_eq (tgt := 13) S.1 S.2.1 dX10_label_6 (by decide) (fun c => absurd c (by decide)) (fun _ => ?_)
  refine lv_iconst (v := 0) S.1 S.2.1 dX10_label_9 (by decide) ?_
  refine lv_goto (tgt := 25) S.1 S.2.1 dX10_label_10 (by decide) ?_
  exact fx_zret S hr (rfl) hlocks () hG (rfl) dX10_label_25
theorem l13_0 {p : Program} {e : Env} {s : State} {m : MethodId} {below : List Frame} {meth : Method} {c : Code} {b : Nat} {xs : Nat → Int32} {H : Heap} {locs : List Loc} {ls : Array Slot} {n : Nat} {a1 a2 a3 a4 : Int32} (g_a1_le_m1 : a1 ≤ (-1)) (S : CallFix p m c cL_law 9 s #[.ref b] wsL_law "TreeDifferLaw") (hr : meth.sig.returnType = ret) (hlocks : meth.locks = false) (hst : l.stackTraces = false) (hX : va_X b 5 xs s s.heap) (hbl : b < s.heap.size ∧ b < N0) (hN : s.heap.size = N0) (hn : N0 + 231 ≤ n) (hx1 : xs 1 = a1) (hx2 : xs 2 = a2) (hx3 : xs 3 = a3) (hx4 : xs 4 = a4) (h0 : F N0 = some (.inr (9, [.ref (N0 + 1), .ref (N0 + 2), .ref (N0 + 11), .ref (N0 + 13), .ref (N0 + 63), .ref (N0 + 65), .ref (N0 + 85), .int (-1), .int (-1), .int 32]))) (h1 : F (N0 + 164) = some (.inr (12, [.ref (N0 + 165), .int 0, .ref (N0 + 181), .int 0, .int 0, .int 0, .int (-1), .ref (ql 24), .ref (N0 + 182), .ref (N0 + 187), .ref (N0 + 208), .ref (N0 + 209), .ref (N0 + 210), .ref (N0 + 211), .ref (N0 + 212), .int 0, .ref (N0 + 213), .ref (N0 + 218), .ref (N0 + 223), .ref (N0 + 224), .ref (N0 + 225), .ref (N0 + 226), .ref (N0 + 227), .int 0, .int 0, .ref (N0 + 228), .null, .int (-1), .int 0, .int 0, .int 0]))) (hG : fG N0 D vwCl (fty cI cC cL cD cII cTr cTm cIt cB) (fen ql) s F n H locs) (hl : lv_has ls 9 [(0, .ref b), (1, .ref N0), (2, .ref (N0 + 164)), (3, .ref (N0 + 229)), (4, .ref (N0 + 230)), (5, .int 0)]) : W p l e { frames := 2048, cells := 600002, slots := 7302232, locals := 84000 } s m #[.ref b] below meth c H locs 231 4980 (lw_Z below #[.ref b] s) (F0 m 1058 ls []) := by
  have lt_h0 := hG.1.lt h0
  have lt_h1 := hG.1.lt h1
  refine lv_aload_n S.1 S.2.1 dL_law_1058 rfl (lv_at hl 1 rfl) ?_
  refine lv_aload_n S.1 S.2.1 dL_law_1059 rfl (lv_at hl 0 rfl) ?_
  refine lv_iload S.1 S.2.1 dL_law_1060 (lv_at hl 5 rfl) ?_
  refine lv_iconst (v := 1) S.1 S.2.1 dL_law_1062 (by decide) ?_
  refine lv_iadd S.1 S.2.1 dL_law_1063 ?_
  refine fx_topi (y := 1) (by decide) ?_
  refine gx_sld (v := a1) S hG hX hbl (fin_l (by decide)) hx1 dL_law_1064 ?_
  refine lv_aload_n S.1 S.2.1 dL_law_1065 rfl (lv_at hl 0 rfl) ?_
  refine lv_iload S.1 S.2.1 dL_law_1066 (lv_at hl 5 rfl) ?_
  refine lv_iconst (v := 2) S.1 S.2.1 dL_law_1068 (by decide) ?_
  refine lv_iadd S.1 S.2.1 dL_law_1069 ?_
  refine fx_topi (y := 2) (by decide) ?_
  refine gx_sld (v := a2) S hG hX hbl (fin_l (by decide)) hx2 dL_law_1070 ?_
  refine lv_aload_n S.1 S.2.1 dL_law_1071 rfl (lv_at hl 3 rfl) ?_
  refine fx_cTi (As := [.ref N0, .int a1, .int a2, .ref (N0 + 229)]) (rest := []) S hG (k559_L_label g_a1_le_m1 hst (by omega) h0) (vx_cwSW 4 S.2.2.2.2 gL_law_L_label rfl rfl rfl (by decide +kernel) ⟨Nat.le_of_ble_eq_true rfl, Nat.le_of_ble_eq_true rfl⟩) rfl hl.1 rfl (Nat.le_of_ble_eq_true rfl) dL_law_1072 ⟨Nat.le_of_ble_eq_true rfl, Nat.le_of_ble_eq_true rfl⟩ (fun rv_u_1 u_1 H locs hp hG => ?_)
  obtain ⟨rfl, hu_1⟩ := hp
  refine W.widen (k := 232) (n := 4986) (by decide) (by decide) ?_
  refine lv_istore (lv' := [(6, .int 1), (0, .ref b), (1, .ref N0), (2, .ref (N0 + 164)), (3, .ref (N0 + 229)), (4, .ref (N0 + 230)), (5, .int 0)]) S.1 S.2.1 dL_law_1075 hl (by decide) rfl (fun ls hl => ?_)
  refine lv_aload_n S.1 S.2.1 dL_law_1077 rfl (lv_at hl 3 rfl) ?_
  refine lv_aload_n S.1 S.2.1 dL_law_1078 rfl (lv_at hl 1 rfl) ?_
  refine lv_iload S.1 S.2.1 dL_law_1079 (lv_at hl 6 rfl) ?_
  refine lv_iconst (v := 1) S.1 S.2.1 dL_law_1081 (by decide) ?_
  refine lv_iadd S.1 S.2.1 dL_law_1082 ?_
  refine fx_topi (y := 1) (by decide) ?_
  refine gx_sld (v := a1) S hG hX hbl (fin_l (by decide)) hx1 dL_law_1083 ?_
  refine lv_aload_n S.1 S.2.1 dL_law_1084 rfl (lv_at hl 1 rfl) ?_
  refine lv_iload S.1 S.2.1 dL_law_1085 (lv_at hl 6 rfl) ?_
  refine lv_iconst (v := 2) S.1 S.2.1 dL_law_1087 (by decide) ?_
  refine lv_iadd S.1 S.2.1 dL_law_1088 ?_
  refine fx_topi (y := 2) (by decide) ?_
  refine gx_sld (v := a2) S hG hX hbl (fin_l (by decide)) hx2 dL_law_1089 ?_
  refine fx_cVi (As := [.int a1, .int a2]) (rest := []) S hG (k560_X10_label g_a1_le_m1 (by omega) h1) h1 rfl (cwV 2 S.2.2.2.2 gL_law_X10_label rfl rfl rfl (by decide +kernel) ⟨Nat.le_of_ble_eq_true rfl, Nat.le_of_ble_eq_true rfl⟩) rfl hl.1 rfl (Nat.le_of_ble_eq_true rfl) dL_law_1090 ⟨Nat.le_of_ble_eq_true rfl, Nat.le_of_ble_eq_true rfl⟩ (fun rv_2 _ H locs hp hG => ?_)
  subst rv_2
  refine lv_istore (lv' := [(7, .int 0), (6, .int 1), (0, .ref b), (1, .ref N0), (2, .ref (N0 + 164)), (3, .ref (N0 + 229)), (4, .ref (N0 + 230)), (5, .int 0)]) S.1 S.2.1 dL_law_1093 hl (by decide) rfl (fun ls hl => ?_)
  refine lv_aload_n S.1 S.2.1 dL_law_1095 rfl (lv_at hl 4 rfl) ?_
  refine fx_cVi (As := []) (rest := []) S hG (k25_X10_thrown (by omega) fu_s) fu_s rfl (cwV 0 S.2.2.2.2 gL_law_X10_thrown rfl rfl rfl (by decide +kernel) ⟨Nat.le_of_ble_eq_true rfl, Nat.le_of_ble_eq_true rfl⟩) rfl hl.1 rfl (Nat.le_of_ble_eq_true rfl) dL_law_1096 ⟨Nat.le_of_ble_eq_true rfl, Nat.le_of_ble_eq_true rfl⟩ (fun rv_3 _ H locs hp hG => ?_)
  subst rv_3
  refine lv_iload S.1 S.2.1 dL_law_1099 (lv_at hl 1 rfl) ?_
  refine lv_icmp_eq (tgt := 1106) S.1 S.2.1 dL_law_1101 (by decide) (fun _ => ?_) (fun c => absurd (by decide) c)
  refine lv_iload S.1 S.2.1 dL_law_1106 (lv_at hl 1 rfl) ?_
  refine lv_if_ne (tgt := 1123) S.1 S.2.1 dL_law_1108 (by decide) (fun _ => ?_) (fun c => absurd c (by decide))
  refine lv_goto (tgt := 2650) S.1 S.2.1 dL_law_1123 (by decide) ?_
  refine lv_iinc (v := 5) (lv' := [(5, .int 5), (7, .int 0), (6, .int 1), (0, .ref b), (1, .ref N0), (2, .ref (N0 + 164)), (3, .ref (N0 + 229)), (4, .ref (N0 + 230))]) S.1 S.2.1 dL_law_2650 hl (k := 7) rfl (by decide) (by decide) rfl (fun ls hl => ?_)
  refine lv_goto (tgt := 28) S.1 S.2.1 dL_law_2653 (by decide) ?_
  refine lv_iload S.1 S.2.1 dL_law_28 (lv_at hl 0 rfl) ?_
  refine lv_aload_n S.1 S.2.1 dL_law_30 rfl (lv_at hl 3 rfl) ?_
  refine gx_slen (v := 5) S hG hX hbl rfl dL_law_31 ?_
  refine lv_iconst (v := 5) S.1 S.2.1 dL_law_32 (by decide) ?_
  refine lv_isub S.1 S.2.1 dL_law_33 ?_
  refine fx_topi (y := 0) (by decide) ?_
  refine lv_icmp_gt (tgt := 2656) S.1 S.2.1 dL_law_34 (by decide) (fun _ => ?_) (fun c => absurd (by decide) c)
  refine lv_iconst (v := 1) S.1 S.2.1 dL_law_2656 (by decide) ?_
  refine va_forget (fun q hq => by rw [hN]; exact hG.2.1.2.2 q hq) ?_
  refine W.widen (k := 600002) (n := 7302232) (by decide) (by decide) ?_
  exact lw_ret (d0 := s.drawn) (Drawn.sameBut.refl _ _) S.1 S.2.1 hr hlocks dL_law_2657
theorem l13_1 {p : Program} {e : Env} {s : State} {m : MethodId} {below : List Frame} {meth : Method} {c : Code} {b : Nat} {xs : Nat → Int32} {H : Heap} {locs : List Loc} {ls : Array Slot} {n : Nat} {a2 a3 a4 : Int32} (g_a2_le_m1 : a2 ≤ (-1)) (S : CallFix p m c cL_law 9 s #[.ref b] wsL_law "TreeDifferLaw") (hr : meth.sig.returnType = ret) (hlocks : meth.locks = false) (hst : l.stackTraces = false) (hX : va_X b 5 xs s s.heap) (hbl : b < s.heap.size ∧ b < N0) (hN : s.heap.size = N0) (hn : N0 + 231 ≤ n) (hx1 : xs 1 = 0) (hx2 : xs 2 = a2) (hx3 : xs 3 = a3) (hx4 : xs 4 = a4) (h0 : F N0 = some (.inr (9, [.ref (N0 + 1), .ref (N0 + 2), .ref (N0 + 11), .ref (N0 + 13), .ref (N0 + 63), .ref (N0 + 65), .ref (N0 + 85), .int (-1), .int (-1), .int 32]))) (h1 : F (N0 + 1) = some (.inl (cTr, 3, .inr (.inr (.inr (.inr (va_up (va_up (va_up (fun _ => none) 0 (some (N0 + 143))) 1 (some (N0 + 150))) 2 (some (N0 + 157))))))))) (h2 : F (N0 + 143) = some (.inr (7, [.ref (N0 + 144), .ref (N0 + 145), .ref (N0 + 146), .ref (N0 + 147), .ref (N0 + 148), .ref (N0 + 149), .int 1]))) (h3 : F (N0 + 164) = some (.inr (12, [.ref (N0 + 165), .int 0, .ref (N0 + 181), .int 0, .int 0, .int 0, .int (-1), .ref (ql 24), .ref (N0 + 182), .ref (N0 + 187), .ref (N0 + 208), .ref (N0 + 209), .ref (N0 + 210), .ref (N0 + 211), .ref (N0 + 212), .int 0, .ref (N0 + 213), .ref (N0 + 218), .ref (N0 + 223), .ref (N0 + 224), .ref (N0 + 225), .ref (N0 + 226), .ref (N0 + 227), .int 0, .int 0, .ref (N0 + 228), .null, .int (-1), .int 0, .int 0, .int 0]))) (h4 : F (N0 + 165) = some (.inl (cTm, 3, .inr (.inr (.inr (.inr (va_up (va_up (va_up (fun _ => none) 0 (some (N0 + 166))) 1 (some (N0 + 171))) 2 (some (N0 + 176))))))))) (h5 : F (N0 + 166) = some (.inr (11, [.ref (N0 + 167), .ref (N0 + 168), .ref (N0 + 169), .ref (N0 + 170), .int 1]))) (hG : fG N0 D vwCl (fty cI cC cL cD cII cTr cTm cIt cB) (fen ql) s F n H locs) (hl : lv_has ls 9 [(0, .ref b), (1, .ref N0), (2, .ref (N0 + 164)), (3, .ref (N0 + 229)), (4, .ref (N0 + 230)), (5, .int 0)]) : W p l e { frames := 2048, cells := 600002, slots := 7302232, locals := 84000 } s m #[.ref b] below meth c H locs 231 4980 (lw_Z below #[.ref b] s) (F0 m 1058 ls []) := by
  have lt_h0 := hG.1.lt h0
  have lt_h1 := hG.1.lt h1
  have lt_h2 := hG.1.lt h2
  have lt_h3 := hG.1.lt h3
  have lt_h4 := hG.1.lt h4
  have lt_h5 := hG.1.lt h5
  refine lv_aload_n S.1 S.2.1 dL_law_1058 rfl (lv_at hl 1 rfl) ?_
  refine lv_aload_n S.1 S.2.1 dL_law_1059 rfl (lv_at hl 0 rfl) ?_
  refine lv_iload S.1 S.2.1 dL_law_1060 (lv_at hl 5 rfl) ?_
  refine lv_iconst (v := 1) S.1 S.2.1 dL_law_1062 (by decide) ?_
  refine lv_iadd S.1 S.2.1 dL_law_1063 ?_
  refine fx_topi (y := 1) (by decide) ?_
  refine gx_sld (v := 0) S hG hX hbl (fin_l (by decide)) hx1 dL_law_1064 ?_
  refine lv_aload_n S.1 S.2.1 dL_law_1065 rfl (lv_at hl 0 rfl) ?_
  refine lv_iload S.1 S.2.1 dL_law_1066 (lv_at hl 5 rfl) ?_
  refine lv_iconst (v := 2) S.1 S.2.1 dL_law_1068 (by decide) ?_
  refine lv_iadd S.1 S.2.1 dL_law_1069 ?_
  refine fx_topi (y := 2) (by decide) ?_
  refine gx_sld (v := a2) S hG hX hbl (fin_l (by decide)) hx2 dL_law_1070 ?_
  refine lv_aload_n S.1 S.2.1 dL_law_1071 rfl (lv_at hl 3 rfl) ?_
  refine fx_cTi (As := [.ref N0, .int 0, .int a2, .ref (N0 + 229)]) (rest := []) S hG (k562_L_label g_a2_le_m1 hst (by omega) h0 h1 h2) (vx_cwSW 4 S.2.2.2.2 gL_law_L_label rfl rfl rfl (by decide +kernel) ⟨Nat.le_of_ble_eq_true rfl, Nat.le_of_ble_eq_true rfl⟩) rfl hl.1 rfl (Nat.le_of_ble_eq_true rfl) dL_law_1072 ⟨Nat.le_of_ble_eq_true rfl, Nat.le_of_ble_eq_true rfl⟩ (fun rv_u_1 u_1 H locs hp hG => ?_)
  obtain ⟨rfl, hu_1⟩ := hp
  refine W.widen (k := 232) (n := 4986) (by decide) (by decide) ?_
  refine lv_istore (lv' := [(6, .int 1), (0, .ref b), (1, .ref N0), (2, .ref (N0 + 164)), (3, .ref (N0 + 229)), (4, .ref (N0 + 230)), (5, .int 0)]) S.1 S.2.1 dL_law_1075 hl (by decide) rfl (fun ls hl => ?_)
  refine lv_aload_n S.1 S.2.1 dL_law_1077 rfl (lv_at hl 3 rfl) ?_
  refine lv_aload_n S.1 S.2.1 dL_law_1078 rfl (lv_at hl 1 rfl) ?_
  refine lv_iload S.1 S.2.1 dL_law_1079 (lv_at hl 6 rfl) ?_
  refine lv_iconst (v := 1) S.1 S.2.1 dL_law_1081 (by decide) ?_
  refine lv_iadd S.1 S.2.1 dL_law_1082 ?_
  refine fx_topi (y := 1) (by decide) ?_
  refine gx_sld (v := 0) S hG hX hbl (fin_l (by decide)) hx1 dL_law_1083 ?_
  refine lv_aload_n S.1 S.2.1 dL_law_1084 rfl (lv_at hl 1 rfl) ?_
  refine lv_iload S.1 S.2.1 dL_law_1085 (lv_at hl 6 rfl) ?_
  refine lv_iconst (v := 2) S.1 S.2.1 dL_law_1087 (by decide) ?_
  refine lv_iadd S.1 S.2.1 dL_law_1088 ?_
  refine fx_topi (y := 2) (by decide) ?_
  refine gx_sld (v := a2) S hG hX hbl (fin_l (by decide)) hx2 dL_law_1089 ?_
  refine fx_cVi (As := [.int 0, .int a2]) (rest := []) S hG (k563_X10_label g_a2_le_m1 (by omega) h3 h4 h5) h3 rfl (cwV 2 S.2.2.2.2 gL_law_X10_label rfl rfl rfl (by decide +kernel) ⟨Nat.le_of_ble_eq_true rfl, Nat.le_of_ble_eq_true rfl⟩) rfl hl.1 rfl (Nat.le_of_ble_eq_true rfl) dL_law_1090 ⟨Nat.le_of_ble_eq_true rfl, Nat.le_of_ble_eq_true rfl⟩ (fun rv_2 _ H locs hp hG => ?_)
  subst rv_2
  refine lv_istore (lv' := [(7, .int 0), (6, .int 1), (0, .ref b), (1, .ref N0), (2, .ref (N0 + 164)), (3, .ref (N0 + 229)), (4, .ref (N0 + 230)), (5, .int 0)]) S.1 S.2.1 dL_law_1093 hl (by decide) rfl (fun ls hl => ?_)
  refine lv_aload_n S.1 S.2.1 dL_law_1095 rfl (lv_at hl 4 rfl) ?_
  refine fx_cVi (As := []) (rest := []) S hG (k25_X10_thrown (by omega) fu_s) fu_s rfl (cwV 0 S.2.2.2.2 gL_law_X10_thrown rfl rfl rfl (by decide +kernel) ⟨Nat.le_of_ble_eq_true rfl, Nat.le_of_ble_eq_true rfl⟩) rfl hl.1 rfl (Nat.le_of_ble_eq_true rfl) dL_law_1096 ⟨Nat.le_of_ble_eq_true rfl, Nat.le_of_ble_eq_true rfl⟩ (fun rv_3 _ H locs hp hG => ?_)
  subst rv_3
  refine lv_iload S.1 S.2.1 dL_law_1099 (lv_at hl 1 rfl) ?_
  refine lv_icmp_eq (tgt := 1106) S.1 S.2.1 dL_law_1101 (by decide) (fun _ => ?_) (fun c => absurd (by decide) c)
  refine lv_iload S.1 S.2.1 dL_law_1106 (lv_at hl 1 rfl) ?_
  refine lv_if_ne (tgt := 1123) S.1 S.2.1 dL_law_1108 (by decide) (fun _ => ?_) (fun c => absurd c (by decide))
  refine lv_goto (tgt := 2650) S.1 S.2.1 dL_law_1123 (by decide) ?_
  refine lv_iinc (v := 5) (lv' := [(5, .int 5), (7, .int 0), (6, .int 1), (0, .ref b), (1, .ref N0), (2, .ref (N0 + 164)), (3, .ref (N0 + 229)), (4, .ref (N0 + 230))]) S.1 S.2.1 dL_law_2650 hl (k := 7) rfl (by decide) (by decide) rfl (fun ls hl => ?_)
  refine lv_goto (tgt := 28) S.1 S.2.1 dL_law_2653 (by decide) ?_
  refine lv_iload S.1 S.2.1 dL_law_28 (lv_at hl 0 rfl) ?_
  refine lv_aload_n S.1 S.2.1 dL_law_30 rfl (lv_at hl 3 rfl) ?_
  refine gx_slen (v := 5) S hG hX hbl rfl dL_law_31 ?_
  refine lv_iconst (v := 5) S.1 S.2.1 dL_law_32 (by decide) ?_
  refine lv_isub S.1 S.2.1 dL_law_33 ?_
  refine fx_topi (y := 0) (by decide) ?_
  refine lv_icmp_gt (tgt := 2656) S.1 S.2.1 dL_law_34 (by decide) (fun _ => ?_) (fun c => absurd (by decide) c)
  refine lv_iconst (v := 1) S.1 S.2.1 dL_law_2656 (by decide) ?_
  refine va_forget (fun q hq => by rw [hN]; exact hG.2.1.2.2 q hq) ?_
  refine W.widen (k := 600002) (n := 7302232) (by decide) (by decide) ?_
  exact lw_ret (d0 := s.drawn) (Drawn.sameBut.refl _ _) S.1 S.2.1 hr hlocks dL_law_2657
theorem l13_2 {p : Program} {e : Env} {s : State} {m : MethodId} {below : List Frame} {meth : Method} {c : Code} {b : Nat} {xs : Nat → Int32} {H : Heap} {locs : List Loc} {ls : Array Slot} {n : Nat} {a3 a4 : Int32} (S : CallFix p m c cL_law 9 s #[.ref b] wsL_law "TreeDifferLaw") (hr : meth.sig.returnType = ret) (hlocks : meth.locks = false) (hst : l.stackTraces = false) (hX : va_X b 5 xs s s.heap) (hbl : b < s.heap.size ∧ b < N0) (hN : s.heap.size = N0) (hn : N0 + 231 ≤ n) (hx1 : xs 1 = 0) (hx2 : xs 2 = 0) (hx3 : xs 3 = a3) (hx4 : xs 4 = a4) (h0 : F N0 = some (.inr (9, [.ref (N0 + 1), .ref (N0 + 2), .ref (N0 + 11), .ref (N0 + 13), .ref (N0 + 63), .ref (N0 + 65), .ref (N0 + 85), .int (-1), .int (-1), .int 32]))) (h1 : F (N0 + 1) = some (.inl (cTr, 3, .inr (.inr (.inr (.inr (va_up (va_up (va_up (fun _ => none) 0 (some (N0 + 143))) 1 (some (N0 + 150))) 2 (some (N0 + 157))))))))) (h2 : F (N0 + 143) = some (.inr (7, [.ref (N0 + 144), .ref (N0 + 145), .ref (N0 + 146), .ref (N0 + 147), .ref (N0 + 148), .ref (N0 + 149), .int 1]))) (h3 : F (N0 + 144) = some (.inl (cC, 20, .inl (upd (fun _ => 0) 0 97)))) (h4 : F (N0 + 229) = some (.inl (cL, 1, .inr (.inl (fun _ => 0))))) (h5 : F (N0 + 164) = some (.inr (12, [.ref (N0 + 165), .int 0, .ref (N0 + 181), .int 0, .int 0, .int 0, .int (-1), .ref (ql 24), .ref (N0 + 182), .ref (N0 + 187), .ref (N0 + 208), .ref (N0 + 209), .ref (N0 + 210), .ref (N0 + 211), .ref (N0 + 212), .int 0, .ref (N0 + 213), .ref (N0 + 218), .ref (N0 + 223), .ref (N0 + 224), .ref (N0 + 225), .ref (N0 + 226), .ref (N0 + 227), .int 0, .int 0, .ref (N0 + 228), .null, .int (-1), .int 0, .int 0, .int 0]))) (h6 : F (N0 + 165) = some (.inl (cTm, 3, .inr (.inr (.inr (.inr (va_up (va_up (va_up (fun _ => none) 0 (some (N0 + 166))) 1 (some (N0 + 171))) 2 (some (N0 + 176))))))))) (h7 : F (N0 + 166) = some (.inr (11, [.ref (N0 + 167), .ref (N0 + 168), .ref (N0 + 169), .ref (N0 + 170), .int 1]))) (h8 : F (N0 + 167) = some (.inl (cI, 20, .inl (upd (fun _ => 0) 0 97)))) (hG : fG N0 D vwCl (fty cI cC cL cD cII cTr cTm cIt cB) (fen ql) s F n H locs) (hl : lv_has ls 9 [(0, .ref b), (1, .ref N0), (2, .ref (N0 + 164)), (3, .ref (N0 + 229)), (4, .ref (N0 + 230)), (5, .int 0)]) : W p l e { frames := 2048, cells := 600002, slots := 7302232, locals := 84000 } s m #[.ref b] below meth c H locs 231 4980 (lw_Z below #[.ref b] s) (F0 m 1058 ls []) := by
  have lt_h0 := hG.1.lt h0
  have lt_h1 := hG.1.lt h1
  have lt_h2 := hG.1.lt h2
  have lt_h3 := hG.1.lt h3
  have lt_h4 := hG.1.lt h4
  have lt_h5 := hG.1.lt h5
  have lt_h6 := hG.1.lt h6
  have lt_h7 := hG.1.lt h7
  have lt_h8 := hG.1.lt h8
  refine lv_aload_n S.1 S.2.1 dL_law_1058 rfl (lv_at hl 1 rfl) ?_
  refine lv_aload_n S.1 S.2.1 dL_law_1059 rfl (lv_at hl 0 rfl) ?_
  refine lv_iload S.1 S.2.1 dL_law_1060 (lv_at hl 5 rfl) ?_
  refine lv_iconst (v := 1) S.1 S.2.1 dL_law_1062 (by decide) ?_
  refine lv_iadd S.1 S.2.1 dL_law_1063 ?_
  refine fx_topi (y := 1) (by decide) ?_
  refine gx_sld (v := 0) S hG hX hbl (fin_l (by decide)) hx1 dL_law_1064 ?_
  refine lv_aload_n S.1 S.2.1 dL_law_1065 rfl (lv_at hl 0 rfl) ?_
  refine lv_iload S.1 S.2.1 dL_law_1066 (lv_at hl 5 rfl) ?_
  refine lv_iconst (v := 2) S.1 S.2.1 dL_law_1068 (by decide) ?_
  refine lv_iadd S.1 S.2.1 dL_law_1069 ?_
  refine fx_topi (y := 2) (by decide) ?_
  refine gx_sld (v := 0) S hG hX hbl (fin_l (by decide)) hx2 dL_law_1070 ?_
  refine lv_aload_n S.1 S.2.1 dL_law_1071 rfl (lv_at hl 3 rfl) ?_
  refine fx_cTi (As := [.ref N0, .int 0, .int 0, .ref (N0 + 229)]) (rest := []) S hG (k565_L_label (by omega) h0 h1 h2 h3 h4) (vx_cwSW 4 S.2.2.2.2 gL_law_L_label rfl rfl rfl (by decide +kernel) ⟨Nat.le_of_ble_eq_true rfl, Nat.le_of_ble_eq_true rfl⟩) rfl hl.1 rfl (Nat.le_of_ble_eq_true rfl) dL_law_1072 ⟨Nat.le_of_ble_eq_true rfl, Nat.le_of_ble_eq_true rfl⟩ (fun rv_1 _ H locs hp hG => ?_)
  subst rv_1
  refine lv_istore (lv' := [(6, .int 0), (0, .ref b), (1, .ref N0), (2, .ref (N0 + 164)), (3, .ref (N0 + 229)), (4, .ref (N0 + 230)), (5, .int 0)]) S.1 S.2.1 dL_law_1075 hl (by decide) rfl (fun ls hl => ?_)
  refine lv_aload_n S.1 S.2.1 dL_law_1077 rfl (lv_at hl 3 rfl) ?_
  refine lv_aload_n S.1 S.2.1 dL_law_1078 rfl (lv_at hl 1 rfl) ?_
  refine lv_iload S.1 S.2.1 dL_law_1079 (lv_at hl 6 rfl) ?_
  refine lv_iconst (v := 1) S.1 S.2.1 dL_law_1081 (by decide) ?_
  refine lv_iadd S.1 S.2.1 dL_law_1082 ?_
  refine fx_topi (y := 1) (by decide) ?_
  refine gx_sld (v := 0) S hG hX hbl (fin_l (by decide)) hx1 dL_law_1083 ?_
  refine lv_aload_n S.1 S.2.1 dL_law_1084 rfl (lv_at hl 1 rfl) ?_
  refine lv_iload S.1 S.2.1 dL_law_1085 (lv_at hl 6 rfl) ?_
  refine lv_iconst (v := 2) S.1 S.2.1 dL_law_1087 (by decide) ?_
  refine lv_iadd S.1 S.2.1 dL_law_1088 ?_
  refine fx_topi (y := 2) (by decide) ?_
  refine gx_sld (v := 0) S hG hX hbl (fin_l (by decide)) hx2 dL_law_1089 ?_
  refine fx_cVi (As := [.int 0, .int 0]) (rest := []) S hG (k566_X10_label (by omega) (fu_at (by omega) h5) (fu_at (by omega) h6) (fu_at (by omega) h7) (fu_at (by omega) h8)) (fu_at (by omega) h5) rfl (cwV 2 S.2.2.2.2 gL_law_X10_label rfl rfl rfl (by decide +kernel) ⟨Nat.le_of_ble_eq_true rfl, Nat.le_of_ble_eq_true rfl⟩) rfl hl.1 rfl (Nat.le_of_ble_eq_true rfl) dL_law_1090 ⟨Nat.le_of_ble_eq_true rfl, Nat.le_of_ble_eq_true rfl⟩ (fun rv_2 _ H locs hp hG => ?_)
  subst rv_2
  refine lv_istore (lv' := [(7, .int 97), (6, .int 0), (0, .ref b), (1, .ref N0), (2, .ref (N0 + 164)), (3, .ref (N0 + 229)), (4, .ref (N0 + 230)), (5, .int 0)]) S.1 S.2.1 dL_law_1093 hl (by decide) rfl (fun ls hl => ?_)
  refine lv_aload_n S.1 S.2.1 dL_law_1095 rfl (lv_at hl 4 rfl) ?_
  refine fx_cVi (As := []) (rest := []) S hG (k117_X10_thrown (by omega) fu_s) fu_s rfl (cwV 0 S.2.2.2.2 gL_law_X10_thrown rfl rfl rfl (by decide +kernel) ⟨Nat.le_of_ble_eq_true rfl, Nat.le_of_ble_eq_true rfl⟩) rfl hl.1 rfl (Nat.le_of_ble_eq_true rfl) dL_law_1096 ⟨Nat.le_of_ble_eq_true rfl, Nat.le_of_ble_eq_true rfl⟩ (fun rv_3 _ H locs hp hG => ?_)
  subst rv_3
  refine lv_iload S.1 S.2.1 dL_law_1099 (lv_at hl 1 rfl) ?_
  refine lv_icmp_eq (tgt := 1106) S.1 S.2.1 dL_law_1101 (by decide) (fun _ => ?_) (fun c => absurd (by decide) c)
  refine lv_iload S.1 S.2.1 dL_law_1106 (lv_at hl 1 rfl) ?_
  refine lv_if_ne (tgt := 1123) S.1 S.2.1 dL_law_1108 (by decide) (fun c => absurd (by decide) c) (fun _ => ?_)
  refine lv_aload_n S.1 S.2.1 dL_law_1111 rfl (lv_at hl 5 rfl) ?_
  refine lv_iconst (v := 0) S.1 S.2.1 dL_law_1112 (by decide) ?_
  refine gx_lald (v := 97) S hG 2 (fu_at (by omega) fu_s) rfl (fin_l (by decide)) rfl dL_law_1113 ?_
  refine lv_iload S.1 S.2.1 dL_law_1114 (lv_at hl 0 rfl) ?_
  refine lv_i2l (v := 97) S.1 S.2.1 dL_law_1116 (by decide) ?_
  refine gx_lcmpEq S rfl dL_law_1117 ?_
  refine lv_if_eq (tgt := 1123) S.1 S.2.1 dL_law_1118 (by decide) (fun _ => ?_) (fun c => absurd (by decide) c)
  refine lv_goto (tgt := 2650) S.1 S.2.1 dL_law_1123 (by decide) ?_
  refine lv_iinc (v := 5) (lv' := [(5, .int 5), (7, .int 97), (6, .int 0), (0, .ref b), (1, .ref N0), (2, .ref (N0 + 164)), (3, .ref (N0 + 229)), (4, .ref (N0 + 230))]) S.1 S.2.1 dL_law_2650 hl (k := 7) rfl (by decide) (by decide) rfl (fun ls hl => ?_)
  refine lv_goto (tgt := 28) S.1 S.2.1 dL_law_2653 (by decide) ?_
  refine lv_iload S.1 S.2.1 dL_law_28 (lv_at hl 0 rfl) ?_
  refine lv_aload_n S.1 S.2.1 dL_law_30 rfl (lv_at hl 3 rfl) ?_
  refine gx_slen (v := 5) S hG hX hbl rfl dL_law_31 ?_
  refine lv_iconst (v := 5) S.1 S.2.1 dL_law_32 (by decide) ?_
  refine lv_isub S.1 S.2.1 dL_law_33 ?_
  refine fx_topi (y := 0) (by decide) ?_
  refine lv_icmp_gt (tgt := 2656) S.1 S.2.1 dL_law_34 (by decide) (fun _ => ?_) (fun c => absurd (by decide) c)
  refine lv_iconst (v := 1) S.1 S.2.1 dL_law_2656 (by decide) ?_
  refine va_forget (fun q hq => by rw [hN]; exact hG.2.1.2.2 q hq) ?_
  refine W.widen (k := 600002) (n := 7302232) (by decide) (by decide) ?_
  exact lw_ret (d0 := s.drawn) (Drawn.sameBut.refl _ _) S.1 S.2.1 hr hlocks dL_law_2657
theorem l13_3 {p : Program} {e : Env} {s : State} {m : MethodId} {below : List Frame} {meth : Method} {c : Code} {b : Nat} {xs : Nat → Int32} {H : Heap} {locs : List Loc} {ls : Array Slot} {n : Nat} {a2 a3 a4 : Int32} (g_a2_ge_1 : 1 ≤ a2) (S : CallFix p m c cL_law 9 s #[.ref b] wsL_law "TreeDifferLaw") (hr : meth.sig.returnType = ret) (hlocks : meth.locks = false) (hst : l.stackTraces = false) (hX : va_X b 5 xs s s.heap) (hbl : b < s.heap.size ∧ b < N0) (hN : s.heap.size = N0) (hn : N0 + 231 ≤ n) (hx1 : xs 1 = 0) (hx2 : xs 2 = a2) (hx3 : xs 3 = a3) (hx4 : xs 4 = a4) (h0 : F N0 = some (.inr (9, [.ref (N0 + 1), .ref (N0 + 2), .ref (N0 + 11), .ref (N0 + 13), .ref (N0 + 63), .ref (N0 + 65), .ref (N0 + 85), .int (-1), .int (-1), .int 32]))) (h1 : F (N0 + 1) = some (.inl (cTr, 3, .inr (.inr (.inr (.inr (va_up (va_up (va_up (fun _ => none) 0 (some (N0 + 143))) 1 (some (N0 + 150))) 2 (some (N0 + 157))))))))) (h2 : F (N0 + 143) = some (.inr (7, [.ref (N0 + 144), .ref (N0 + 145), .ref (N0 + 146), .ref (N0 + 147), .ref (N0 + 148), .ref (N0 + 149), .int 1]))) (h3 : F (N0 + 164) = some (.inr (12, [.ref (N0 + 165), .int 0, .ref (N0 + 181), .int 0, .int 0, .int 0, .int (-1), .ref (ql 24), .ref (N0 + 182), .ref (N0 + 187), .ref (N0 + 208), .ref (N0 + 209), .ref (N0 + 210), .ref (N0 + 211), .ref (N0 + 212), .int 0, .ref (N0 + 213), .ref (N0 + 218), .ref (N0 + 223), .ref (N0 + 224), .ref (N0 + 225), .ref (N0 + 226), .ref (N0 + 227), .int 0, .int 0, .ref (N0 + 228), .null, .int (-1), .int 0, .int 0, .int 0]))) (h4 : F (N0 + 165) = some (.inl (cTm, 3, .inr (.inr (.inr (.inr (va_up (va_up (va_up (fun _ => none) 0 (some (N0 + 166))) 1 (some (N0 + 171))) 2 (some (N0 + 176))))))))) (h5 : F (N0 + 166) = some (.inr (11, [.ref (N0 + 167), .ref (N0 + 168), .ref (N0 + 169), .ref (N0 + 170), .int 1]))) (hG : fG N0 D vwCl (fty cI cC cL cD cII cTr cTm cIt cB) (fen ql) s F n H locs) (hl : lv_has ls 9 [(0, .ref b), (1, .ref N0), (2, .ref (N0 + 164)), (3, .ref (N0 + 229)), (4, .ref (N0 + 230)), (5, .int 0)]) : W p l e { frames := 2048, cells := 600002, slots := 7302232, locals := 84000 } s m #[.ref b] below meth c H locs 231 4980 (lw_Z below #[.ref b] s) (F0 m 1058 ls []) := by
  have lt_h0 := hG.1.lt h0
  have lt_h1 := hG.1.lt h1
  have lt_h2 := hG.1.lt h2
  have lt_h3 := hG.1.lt h3
  have lt_h4 := hG.1.lt h4
  have lt_h5 := hG.1.lt h5
  refine lv_aload_n S.1 S.2.1 dL_law_1058 rfl (lv_at hl 1 rfl) ?_
  refine lv_aload_n S.1 S.2.1 dL_law_1059 rfl (lv_at hl 0 rfl) ?_
  refine lv_iload S.1 S.2.1 dL_law_1060 (lv_at hl 5 rfl) ?_
  refine lv_iconst (v := 1) S.1 S.2.1 dL_law_1062 (by decide) ?_
  refine lv_iadd S.1 S.2.1 dL_law_1063 ?_
  refine fx_topi (y := 1) (by decide) ?_
  refine gx_sld (v := 0) S hG hX hbl (fin_l (by decide)) hx1 dL_law_1064 ?_
  refine lv_aload_n S.1 S.2.1 dL_law_1065 rfl (lv_at hl 0 rfl) ?_
  refine lv_iload S.1 S.2.1 dL_law_1066 (lv_at hl 5 rfl) ?_
  refine lv_iconst (v := 2) S.1 S.2.1 dL_law_1068 (by decide) ?_
  refine lv_iadd S.1 S.2.1 dL_law_1069 ?_
  refine fx_topi (y := 2) (by decide) ?_
  refine gx_sld (v := a2) S hG hX hbl (fin_l (by decide)) hx2 dL_law_1070 ?_
  refine lv_aload_n S.1 S.2.1 dL_law_1071 rfl (lv_at hl 3 rfl) ?_
  refine fx_cTi (As := [.ref N0, .int 0, .int a2, .ref (N0 + 229)]) (rest := []) S hG (k568_L_label g_a2_ge_1 hst (by omega) h0 h1 h2) (vx_cwSW 4 S.2.2.2.2 gL_law_L_label rfl rfl rfl (by decide +kernel) ⟨Nat.le_of_ble_eq_true rfl, Nat.le_of_ble_eq_true rfl⟩) rfl hl.1 rfl (Nat.le_of_ble_eq_true rfl) dL_law_1072 ⟨Nat.le_of_ble_eq_true rfl, Nat.le_of_ble_eq_true rfl⟩ (fun rv_u_1 u_1 H locs hp hG => ?_)
  obtain ⟨rfl, hu_1⟩ := hp
  refine W.widen (k := 232) (n := 4986) (by decide) (by decide) ?_
  refine lv_istore (lv' := [(6, .int 1), (0, .ref b), (1, .ref N0), (2, .ref (N0 + 164)), (3, .ref (N0 + 229)), (4, .ref (N0 + 230)), (5, .int 0)]) S.1 S.2.1 dL_law_1075 hl (by decide) rfl (fun ls hl => ?_)
  refine lv_aload_n S.1 S.2.1 dL_law_1077 rfl (lv_at hl 3 rfl) ?_
  refine lv_aload_n S.1 S.2.1 dL_law_1078 rfl (lv_at hl 1 rfl) ?_
  refine lv_iload S.1 S.2.1 dL_law_1079 (lv_at hl 6 rfl) ?_
  refine lv_iconst (v := 1) S.1 S.2.1 dL_law_1081 (by decide) ?_
  refine lv_iadd S.1 S.2.1 dL_law_1082 ?_
  refine fx_topi (y := 1) (by decide) ?_
  refine gx_sld (v := 0) S hG hX hbl (fin_l (by decide)) hx1 dL_law_1083 ?_
  refine lv_aload_n S.1 S.2.1 dL_law_1084 rfl (lv_at hl 1 rfl) ?_
  refine lv_iload S.1 S.2.1 dL_law_1085 (lv_at hl 6 rfl) ?_
  refine lv_iconst (v := 2) S.1 S.2.1 dL_law_1087 (by decide) ?_
  refine lv_iadd S.1 S.2.1 dL_law_1088 ?_
  refine fx_topi (y := 2) (by decide) ?_
  refine gx_sld (v := a2) S hG hX hbl (fin_l (by decide)) hx2 dL_law_1089 ?_
  refine fx_cVi (As := [.int 0, .int a2]) (rest := []) S hG (k569_X10_label g_a2_ge_1 (by omega) h3 h4 h5) h3 rfl (cwV 2 S.2.2.2.2 gL_law_X10_label rfl rfl rfl (by decide +kernel) ⟨Nat.le_of_ble_eq_true rfl, Nat.le_of_ble_eq_true rfl⟩) rfl hl.1 rfl (Nat.le_of_ble_eq_true rfl) dL_law_1090 ⟨Nat.le_of_ble_eq_true rfl, Nat.le_of_ble_eq_true rfl⟩ (fun rv_2 _ H locs hp hG => ?_)
  subst rv_2
  refine lv_istore (lv' := [(7, .int 0), (6, .int 1), (0, .ref b), (1, .ref N0), (2, .ref (N0 + 164)), (3, .ref (N0 + 229)), (4, .ref (N0 + 230)), (5, .int 0)]) S.1 S.2.1 dL_law_1093 hl (by decide) rfl (fun ls hl => ?_)
  refine lv_aload_n S.1 S.2.1 dL_law_1095 rfl (lv_at hl 4 rfl) ?_
  refine fx_cVi (As := []) (rest := []) S hG (k25_X10_thrown (by omega) fu_s) fu_s rfl (cwV 0 S.2.2.2.2 gL_law_X10_thrown rfl rfl rfl (by decide +kernel) ⟨Nat.le_of_ble_eq_true rfl, Nat.le_of_ble_eq_true rfl⟩) rfl hl.1 rfl (Nat.le_of_ble_eq_true rfl) dL_law_1096 ⟨Nat.le_of_ble_eq_true rfl, Nat.le_of_ble_eq_true rfl⟩ (fun rv_3 _ H locs hp hG => ?_)
  subst rv_3
  refine lv_iload S.1 S.2.1 dL_law_1099 (lv_at hl 1 rfl) ?_
  refine lv_icmp_eq (tgt := 1106) S.1 S.2.1 dL_law_1101 (by decide) (fun _ => ?_) (fun c => absurd (by decide) c)
  refine lv_iload S.1 S.2.1 dL_law_1106 (lv_at hl 1 rfl) ?_
  refine lv_if_ne (tgt := 1123) S.1 S.2.1 dL_law_1108 (by decide) (fun _ => ?_) (fun c => absurd c (by decide))
  refine lv_goto (tgt := 2650) S.1 S.2.1 dL_law_1123 (by decide) ?_
  refine lv_iinc (v := 5) (lv' := [(5, .int 5), (7, .int 0), (6, .int 1), (0, .ref b), (1, .ref N0), (2, .ref (N0 + 164)), (3, .ref (N0 + 229)), (4, .ref (N0 + 230))]) S.1 S.2.1 dL_law_2650 hl (k := 7) rfl (by decide) (by decide) rfl (fun ls hl => ?_)
  refine lv_goto (tgt := 28) S.1 S.2.1 dL_law_2653 (by decide) ?_
  refine lv_iload S.1 S.2.1 dL_law_28 (lv_at hl 0 rfl) ?_
  refine lv_aload_n S.1 S.2.1 dL_law_30 rfl (lv_at hl 3 rfl) ?_
  refine gx_slen (v := 5) S hG hX hbl rfl dL_law_31 ?_
  refine lv_iconst (v := 5) S.1 S.2.1 dL_law_32 (by decide) ?_
  refine lv_isub S.1 S.2.1 dL_law_33 ?_
  refine fx_topi (y := 0) (by decide) ?_
  refine lv_icmp_gt (tgt := 2656) S.1 S.2.1 dL_law_34 (by decide) (fun _ => ?_) (fun c => absurd (by decide) c)
  refine lv_iconst (v := 1) S.1 S.2.1 dL_law_2656 (by decide) ?_
  refine va_forget (fun q hq => by rw [hN]; exact hG.2.1.2.2 q hq) ?_
  refine W.widen (k := 600002) (n := 7302232) (by decide) (by decide) ?_
  exact lw_ret (d0 := s.drawn) (Drawn.sameBut.refl _ _) S.1 S.2.1 hr hlocks dL_law_2657
theorem l13_4 {p : Program} {e : Env} {s : State} {m : MethodId} {below : List Frame} {meth : Method} {c : Code} {b : Nat} {xs : Nat → Int32} {H : Heap} {locs : List Loc} {ls : Array Slot} {n : Nat} {a2 a3 a4 : Int32} (g_a2_le_m1 : a2 ≤ (-1)) (S : CallFix p m c cL_law 9 s #[.ref b] wsL_law "TreeDifferLaw") (hr : meth.sig.returnType = ret) (hlocks : meth.locks = false) (hst : l.stackTraces = false) (hX : va_X b 5 xs s s.heap) (hbl : b < s.heap.size ∧ b < N0) (hN : s.heap.size = N0) (hn : N0 + 231 ≤ n) (hx1 : xs 1 = 1) (hx2 : xs 2 = a2) (hx3 : xs 3 = a3) (hx4 : xs 4 = a4) (h0 : F N0 = some (.inr (9, [.ref (N0 + 1), .ref (N0 + 2), .ref (N0 + 11), .ref (N0 + 13), .ref (N0 + 63), .ref (N0 + 65), .ref (N0 + 85), .int (-1), .int (-1), .int 32]))) (h1 : F (N0 + 1) = some (.inl (cTr, 3, .inr (.inr (.inr (.inr (va_up (va_up (va_up (fun _ => none) 0 (some (N0 + 143))) 1 (some (N0 + 150))) 2 (some (N0 + 157))))))))) (h2 : F (N0 + 150) = some (.inr (7, [.ref (N0 + 151), .ref (N0 + 152), .ref (N0 + 153), .ref (N0 + 154), .ref (N0 + 155), .ref (N0 + 156), .int 1]))) (h3 : F (N0 + 164) = some (.inr (12, [.ref (N0 + 165), .int 0, .ref (N0 + 181), .int 0, .int 0, .int 0, .int (-1), .ref (ql 24), .ref (N0 + 182), .ref (N0 + 187), .ref (N0 + 208), .ref (N0 + 209), .ref (N0 + 210), .ref (N0 + 211), .ref (N0 + 212), .int 0, .ref (N0 + 213), .ref (N0 + 218), .ref (N0 + 223), .ref (N0 + 224), .ref (N0 + 225), .ref (N0 + 226), .ref (N0 + 227), .int 0, .int 0, .ref (N0 + 228), .null, .int (-1), .int 0, .int 0, .int 0]))) (h4 : F (N0 + 165) = some (.inl (cTm, 3, .inr (.inr (.inr (.inr (va_up (va_up (va_up (fun _ => none) 0 (some (N0 + 166))) 1 (some (N0 + 171))) 2 (some (N0 + 176))))))))) (h5 : F (N0 + 171) = some (.inr (11, [.ref (N0 + 172), .ref (N0 + 173), .ref (N0 + 174), .ref (N0 + 175), .int 1]))) (hG : fG N0 D vwCl (fty cI cC cL cD cII cTr cTm cIt cB) (fen ql) s F n H locs) (hl : lv_has ls 9 [(0, .ref b), (1, .ref N0), (2, .ref (N0 + 164)), (3, .ref (N0 + 229)), (4, .ref (N0 + 230)), (5, .int 0)]) : W p l e { frames := 2048, cells := 600002, slots := 7302232, locals := 84000 } s m #[.ref b] below meth c H locs 231 4980 (lw_Z below #[.ref b] s) (F0 m 1058 ls []) := by
  have lt_h0 := hG.1.lt h0
  have lt_h1 := hG.1.lt h1
  have lt_h2 := hG.1.lt h2
  have lt_h3 := hG.1.lt h3
  have lt_h4 := hG.1.lt h4
  have lt_h5 := hG.1.lt h5
  refine lv_aload_n S.1 S.2.1 dL_law_1058 rfl (lv_at hl 1 rfl) ?_
  refine lv_aload_n S.1 S.2.1 dL_law_1059 rfl (lv_at hl 0 rfl) ?_
  refine lv_iload S.1 S.2.1 dL_law_1060 (lv_at hl 5 rfl) ?_
  refine lv_iconst (v := 1) S.1 S.2.1 dL_law_1062 (by decide) ?_
  refine lv_iadd S.1 S.2.1 dL_law_1063 ?_
  refine fx_topi (y := 1) (by decide) ?_
  refine gx_sld (v := 1) S hG hX hbl (fin_l (by decide)) hx1 dL_law_1064 ?_
  refine lv_aload_n S.1 S.2.1 dL_law_1065 rfl (lv_at hl 0 rfl) ?_
  refine lv_iload S.1 S.2.1 dL_law_1066 (lv_at hl 5 rfl) ?_
  refine lv_iconst (v := 2) S.1 S.2.1 dL_law_1068 (by decide) ?_
  refine lv_iadd S.1 S.2.1 dL_law_1069 ?_
  refine fx_topi (y := 2) (by decide) ?_
  refine gx_sld (v := a2) S hG hX hbl (fin_l (by decide)) hx2 dL_law_1070 ?_
  refine lv_aload_n S.1 S.2.1 dL_law_1071 rfl (lv_at hl 3 rfl) ?_
  refine fx_cTi (As := [.ref N0, .int 1, .int a2, .ref (N0 + 229)]) (rest := []) S hG (k571_L_label g_a2_le_m1 hst (by omega) h0 h1 h2) (vx_cwSW 4 S.2.2.2.2 gL_law_L_label rfl rfl rfl (by decide +kernel) ⟨Nat.le_of_ble_eq_true rfl, Nat.le_of_ble_eq_true rfl⟩) rfl hl.1 rfl (Nat.le_of_ble_eq_true rfl) dL_law_1072 ⟨Nat.le_of_ble_eq_true rfl, Nat.le_of_ble_eq_true rfl⟩ (fun rv_u_1 u_1 H locs hp hG => ?_)
  obtain ⟨rfl, hu_1⟩ := hp
  refine W.widen (k := 232) (n := 4986) (by decide) (by decide) ?_
  refine lv_istore (lv' := [(6, .int 1), (0, .ref b), (1, .ref N0), (2, .ref (N0 + 164)), (3, .ref (N0 + 229)), (4, .ref (N0 + 230)), (5, .int 0)]) S.1 S.2.1 dL_law_1075 hl (by decide) rfl (fun ls hl => ?_)
  refine lv_aload_n S.1 S.2.1 dL_law_1077 rfl (lv_at hl 3 rfl) ?_
  refine lv_aload_n S.1 S.2.1 dL_law_1078 rfl (lv_at hl 1 rfl) ?_
  refine lv_iload S.1 S.2.1 dL_law_1079 (lv_at hl 6 rfl) ?_
  refine lv_iconst (v := 1) S.1 S.2.1 dL_law_1081 (by decide) ?_
  refine lv_iadd S.1 S.2.1 dL_law_1082 ?_
  refine fx_topi (y := 1) (by decide) ?_
  refine gx_sld (v := 1) S hG hX hbl (fin_l (by decide)) hx1 dL_law_1083 ?_
  refine lv_aload_n S.1 S.2.1 dL_law_1084 rfl (lv_at hl 1 rfl) ?_
  refine lv_iload S.1 S.2.1 dL_law_1085 (lv_at hl 6 rfl) ?_
  refine lv_iconst (v := 2) S.1 S.2.1 dL_law_1087 (by decide) ?_
  refine lv_iadd S.1 S.2.1 dL_law_1088 ?_
  refine fx_topi (y := 2) (by decide) ?_
  refine gx_sld (v := a2) S hG hX hbl (fin_l (by decide)) hx2 dL_law_1089 ?_
  refine fx_cVi (As := [.int 1, .int a2]) (rest := []) S hG (k572_X10_label g_a2_le_m1 (by omega) h3 h4 h5) h3 rfl (cwV 2 S.2.2.2.2 gL_law_X10_label rfl rfl rfl (by decide +kernel) ⟨Nat.le_of_ble_eq_true rfl, Nat.le_of_ble_eq_true rfl⟩) rfl hl.1 rfl (Nat.le_of_ble_eq_true rfl) dL_law_1090 ⟨Nat.le_of_ble_eq_true rfl, Nat.le_of_ble_eq_true rfl⟩ (fun rv_2 _ H locs hp hG => ?_)
  subst rv_2
  refine lv_istore (lv' := [(7, .int 0), (6, .int 1), (0, .ref b), (1, .ref N0), (2, .ref (N0 + 164)), (3, .ref (N0 + 229)), (4, .ref (N0 + 230)), (5, .int 0)]) S.1 S.2.1 dL_law_1093 hl (by decide) rfl (fun ls hl => ?_)
  refine lv_aload_n S.1 S.2.1 dL_law_1095 rfl (lv_at hl 4 rfl) ?_
  refine fx_cVi (As := []) (rest := []) S hG (k25_X10_thrown (by omega) fu_s) fu_s rfl (cwV 0 S.2.2.2.2 gL_law_X10_thrown rfl rfl rfl (by decide +kernel) ⟨Nat.le_of_ble_eq_true rfl, Nat.le_of_ble_eq_true rfl⟩) rfl hl.1 rfl (Nat.le_of_ble_eq_true rfl) dL_law_1096 ⟨Nat.le_of_ble_eq_true rfl, Nat.le_of_ble_eq_true rfl⟩ (fun rv_3 _ H locs hp hG => ?_)
  subst rv_3
  refine lv_iload S.1 S.2.1 dL_law_1099 (lv_at hl 1 rfl) ?_
  refine lv_icmp_eq (tgt := 1106) S.1 S.2.1 dL_law_1101 (by decide) (fun _ => ?_) (fun c => absurd (by decide) c)
  refine lv_iload S.1 S.2.1 dL_law_1106 (lv_at hl 1 rfl) ?_
  refine lv_if_ne (tgt := 1123) S.1 S.2.1 dL_law_1108 (by decide) (fun _ => ?_) (fun c => absurd c (by decide))
  refine lv_goto (tgt := 2650) S.1 S.2.1 dL_law_1123 (by decide) ?_
  refine lv_iinc (v := 5) (lv' := [(5, .int 5), (7, .int 0), (6, .int 1), (0, .ref b), (1, .ref N0), (2, .ref (N0 + 164)), (3, .ref (N0 + 229)), (4, .ref (N0 + 230))]) S.1 S.2.1 dL_law_2650 hl (k := 7) rfl (by decide) (by decide) rfl (fun ls hl => ?_)
  refine lv_goto (tgt := 28) S.1 S.2.1 dL_law_2653 (by decide) ?_
  refine lv_iload S.1 S.2.1 dL_law_28 (lv_at hl 0 rfl) ?_
  refine lv_aload_n S.1 S.2.1 dL_law_30 rfl (lv_at hl 3 rfl) ?_
  refine gx_slen (v := 5) S hG hX hbl rfl dL_law_31 ?_
  refine lv_iconst (v := 5) S.1 S.2.1 dL_law_32 (by decide) ?_
  refine lv_isub S.1 S.2.1 dL_law_33 ?_
  refine fx_topi (y := 0) (by decide) ?_
  refine lv_icmp_gt (tgt := 2656) S.1 S.2.1 dL_law_34 (by decide) (fun _ => ?_) (fun c => absurd (by decide) c)
  refine lv_iconst (v := 1) S.1 S.2.1 dL_law_2656 (by decide) ?_
  refine va_forget (fun q hq => by rw [hN]; exact hG.2.1.2.2 q hq) ?_
  refine W.widen (k := 600002) (n := 7302232) (by decide) (by decide) ?_
  exact lw_ret (d0 := s.drawn) (Drawn.sameBut.refl _ _) S.1 S.2.1 hr hlocks dL_law_2657
theorem l13_5 {p : Program} {e : Env} {s : State} {m : MethodId} {below : List Frame} {meth : Method} {c : Code} {b : Nat} {xs : Nat → Int32} {H : Heap} {locs : List Loc} {ls : Array Slot} {n : Nat} {a3 a4 : Int32} (S : CallFix p m c cL_law 9 s #[.ref b] wsL_law "TreeDifferLaw") (hr : meth.sig.returnType = ret) (hlocks : meth.locks = false) (hst : l.stackTraces = false) (hX : va_X b 5 xs s s.heap) (hbl : b < s.heap.size ∧ b < N0) (hN : s.heap.size = N0) (hn : N0 + 231 ≤ n) (hx1 : xs 1 = 1) (hx2 : xs 2 = 0) (hx3 : xs 3 = a3) (hx4 : xs 4 = a4) (h0 : F N0 = some (.inr (9, [.ref (N0 + 1), .ref (N0 + 2), .ref (N0 + 11), .ref (N0 + 13), .ref (N0 + 63), .ref (N0 + 65), .ref (N0 + 85), .int (-1), .int (-1), .int 32]))) (h1 : F (N0 + 1) = some (.inl (cTr, 3, .inr (.inr (.inr (.inr (va_up (va_up (va_up (fun _ => none) 0 (some (N0 + 143))) 1 (some (N0 + 150))) 2 (some (N0 + 157))))))))) (h2 : F (N0 + 150) = some (.inr (7, [.ref (N0 + 151), .ref (N0 + 152), .ref (N0 + 153), .ref (N0 + 154), .ref (N0 + 155), .ref (N0 + 156), .int 1]))) (h3 : F (N0 + 151) = some (.inl (cC, 20, .inl (upd (fun _ => 0) 0 97)))) (h4 : F (N0 + 229) = some (.inl (cL, 1, .inr (.inl (fun _ => 0))))) (h5 : F (N0 + 164) = some (.inr (12, [.ref (N0 + 165), .int 0, .ref (N0 + 181), .int 0, .int 0, .int 0, .int (-1), .ref (ql 24), .ref (N0 + 182), .ref (N0 + 187), .ref (N0 + 208), .ref (N0 + 209), .ref (N0 + 210), .ref (N0 + 211), .ref (N0 + 212), .int 0, .ref (N0 + 213), .ref (N0 + 218), .ref (N0 + 223), .ref (N0 + 224), .ref (N0 + 225), .ref (N0 + 226), .ref (N0 + 227), .int 0, .int 0, .ref (N0 + 228), .null, .int (-1), .int 0, .int 0, .int 0]))) (h6 : F (N0 + 165) = some (.inl (cTm, 3, .inr (.inr (.inr (.inr (va_up (va_up (va_up (fun _ => none) 0 (some (N0 + 166))) 1 (some (N0 + 171))) 2 (some (N0 + 176))))))))) (h7 : F (N0 + 171) = some (.inr (11, [.ref (N0 + 172), .ref (N0 + 173), .ref (N0 + 174), .ref (N0 + 175), .int 1]))) (h8 : F (N0 + 172) = some (.inl (cI, 20, .inl (upd (fun _ => 0) 0 97)))) (hG : fG N0 D vwCl (fty cI cC cL cD cII cTr cTm cIt cB) (fen ql) s F n H locs) (hl : lv_has ls 9 [(0, .ref b), (1, .ref N0), (2, .ref (N0 + 164)), (3, .ref (N0 + 229)), (4, .ref (N0 + 230)), (5, .int 0)]) : W p l e { frames := 2048, cells := 600002, slots := 7302232, locals := 84000 } s m #[.ref b] below meth c H locs 231 4980 (lw_Z below #[.ref b] s) (F0 m 1058 ls []) := by
  have lt_h0 := hG.1.lt h0
  have lt_h1 := hG.1.lt h1
  have lt_h2 := hG.1.lt h2
  have lt_h3 := hG.1.lt h3
  have lt_h4 := hG.1.lt h4
  have lt_h5 := hG.1.lt h5
  have lt_h6 := hG.1.lt h6
  have lt_h7 := hG.1.lt h7
  have lt_h8 := hG.1.lt h8
  refine lv_aload_n S.1 S.2.1 dL_law_1058 rfl (lv_at hl 1 rfl) ?_
  refine lv_aload_n S.1 S.2.1 dL_law_1059 rfl (lv_at hl 0 rfl) ?_
  refine lv_iload S.1 S.2.1 dL_law_1060 (lv_at hl 5 rfl) ?_
  refine lv_iconst (v := 1) S.1 S.2.1 dL_law_1062 (by decide) ?_
  refine lv_iadd S.1 S.2.1 dL_law_1063 ?_
  refine fx_topi (y := 1) (by decide) ?_
  refine gx_sld (v := 1) S hG hX hbl (fin_l (by decide)) hx1 dL_law_1064 ?_
  refine lv_aload_n S.1 S.2.1 dL_law_1065 rfl (lv_at hl 0 rfl) ?_
  refine lv_iload S.1 S.2.1 dL_law_1066 (lv_at hl 5 rfl) ?_
  refine lv_iconst (v := 2) S.1 S.2.1 dL_law_1068 (by decide) ?_
  refine lv_iadd S.1 S.2.1 dL_law_1069 ?_
  refine fx_topi (y := 2) (by decide) ?_
  refine gx_sld (v := 0) S hG hX hbl (fin_l (by decide)) hx2 dL_law_1070 ?_
  refine lv_aload_n S.1 S.2.1 dL_law_1071 rfl (lv_at hl 3 rfl) ?_
  refine fx_cTi (As := [.ref N0, .int 1, .int 0, .ref (N0 + 229)]) (rest := []) S hG (k574_L_label (by omega) h0 h1 h2 h3 h4) (vx_cwSW 4 S.2.2.2.2 gL_law_L_label rfl rfl rfl (by decide +kernel) ⟨Nat.le_of_ble_eq_true rfl, Nat.le_of_ble_eq_true rfl⟩) rfl hl.1 rfl (Nat.le_of_ble_eq_true rfl) dL_law_1072 ⟨Nat.le_of_ble_eq_true rfl, Nat.le_of_ble_eq_true rfl⟩ (fun rv_1 _ H locs hp hG => ?_)
  subst rv_1
  refine lv_istore (lv' := [(6, .int 0), (0, .ref b), (1, .ref N0), (2, .ref (N0 + 164)), (3, .ref (N0 + 229)), (4, .ref (N0 + 230)), (5, .int 0)]) S.1 S.2.1 dL_law_1075 hl (by decide) rfl (fun ls hl => ?_)
  refine lv_aload_n S.1 S.2.1 dL_law_1077 rfl (lv_at hl 3 rfl) ?_
  refine lv_aload_n S.1 S.2.1 dL_law_1078 rfl (lv_at hl 1 rfl) ?_
  refine lv_iload S.1 S.2.1 dL_law_1079 (lv_at hl 6 rfl) ?_
  refine lv_iconst (v := 1) S.1 S.2.1 dL_law_1081 (by decide) ?_
  refine lv_iadd S.1 S.2.1 dL_law_1082 ?_
  refine fx_topi (y := 1) (by decide) ?_
  refine gx_sld (v := 1) S hG hX hbl (fin_l (by decide)) hx1 dL_law_1083 ?_
  refine lv_aload_n S.1 S.2.1 dL_law_1084 rfl (lv_at hl 1 rfl) ?_
  refine lv_iload S.1 S.2.1 dL_law_1085 (lv_at hl 6 rfl) ?_
  refine lv_iconst (v := 2) S.1 S.2.1 dL_law_1087 (by decide) ?_
  refine lv_iadd S.1 S.2.1 dL_law_1088 ?_
  refine fx_topi (y := 2) (by decide) ?_
  refine gx_sld (v := 0) S hG hX hbl (fin_l (by decide)) hx2 dL_law_1089 ?_
  refine fx_cVi (As := [.int 1, .int 0]) (rest := []) S hG (k575_X10_label (by omega) (fu_at (by omega) h5) (fu_at (by omega) h6) (fu_at (by omega) h7) (fu_at (by omega) h8)) (fu_at (by omega) h5) rfl (cwV 2 S.2.2.2.2 gL_law_X10_label rfl rfl rfl (by decide +kernel) ⟨Nat.le_of_ble_eq_true rfl, Nat.le_of_ble_eq_true rfl⟩) rfl hl.1 rfl (Nat.le_of_ble_eq_true rfl) dL_law_1090 ⟨Nat.le_of_ble_eq_true rfl, Nat.le_of_ble_eq_true rfl⟩ (fun rv_2 _ H locs hp hG => ?_)
  subst rv_2
  refine lv_istore (lv' := [(7, .int 97), (6, .int 0), (0, .ref b), (1, .ref N0), (2, .ref (N0 + 164)), (3, .ref (N0 + 229)), (4, .ref (N0 + 230)), (5, .int 0)]) S.1 S.2.1 dL_law_1093 hl (by decide) rfl (fun ls hl => ?_)
  refine lv_aload_n S.1 S.2.1 dL_law_1095 rfl (lv_at hl 4 rfl) ?_
  refine fx_cVi (As := []) (rest := []) S hG (k117_X10_thrown (by omega) fu_s) fu_s rfl (cwV 0 S.2.2.2.2 gL_law_X10_thrown rfl rfl rfl (by decide +kernel) ⟨Nat.le_of_ble_eq_true rfl, Nat.le_of_ble_eq_true rfl⟩) rfl hl.1 rfl (Nat.le_of_ble_eq_true rfl) dL_law_1096 ⟨Nat.le_of_ble_eq_true rfl, Nat.le_of_ble_eq_true rfl⟩ (fun rv_3 _ H locs hp hG => ?_)
  subst rv_3
  refine lv_iload S.1 S.2.1 dL_law_1099 (lv_at hl 1 rfl) ?_
  refine lv_icmp_eq (tgt := 1106) S.1 S.2.1 dL_law_1101 (by decide) (fun _ => ?_) (fun c => absurd (by decide) c)
  refine lv_iload S.1 S.2.1 dL_law_1106 (lv_at hl 1 rfl) ?_
  refine lv_if_ne (tgt := 1123) S.1 S.2.1 dL_law_1108 (by decide) (fun c => absurd (by decide) c) (fun _ => ?_)
  refine lv_aload_n S.1 S.2.1 dL_law_1111 rfl (lv_at hl 5 rfl) ?_
  refine lv_iconst (v := 0) S.1 S.2.1 dL_law_1112 (by decide) ?_
  refine gx_lald (v := 97) S hG 2 (fu_at (by omega) fu_s) rfl (fin_l (by decide)) rfl dL_law_1113 ?_
  refine lv_iload S.1 S.2.1 dL_law_1114 (lv_at hl 0 rfl) ?_
  refine lv_i2l (v := 97) S.1 S.2.1 dL_law_1116 (by decide) ?_
  refine gx_lcmpEq S rfl dL_law_1117 ?_
  refine lv_if_eq (tgt := 1123) S.1 S.2.1 dL_law_1118 (by decide) (fun _ => ?_) (fun c => absurd (by decide) c)
  refine lv_goto (tgt := 2650) S.1 S.2.1 dL_law_1123 (by decide) ?_
  refine lv_iinc (v := 5) (lv' := [(5, .int 5), (7, .int 97), (6, .int 0), (0, .ref b), (1, .ref N0), (2, .ref (N0 + 164)), (3, .ref (N0 + 229)), (4, .ref (N0 + 230))]) S.1 S.2.1 dL_law_2650 hl (k := 7) rfl (by decide) (by decide) rfl (fun ls hl => ?_)
  refine lv_goto (tgt := 28) S.1 S.2.1 dL_law_2653 (by decide) ?_
  refine lv_iload S.1 S.2.1 dL_law_28 (lv_at hl 0 rfl) ?_
  refine lv_aload_n S.1 S.2.1 dL_law_30 rfl (lv_at hl 3 rfl) ?_
  refine gx_slen (v := 5) S hG hX hbl rfl dL_law_31 ?_
  refine lv_iconst (v := 5) S.1 S.2.1 dL_law_32 (by decide) ?_
  refine lv_isub S.1 S.2.1 dL_law_33 ?_
  refine fx_topi (y := 0) (by decide) ?_
  refine lv_icmp_gt (tgt := 2656) S.1 S.2.1 dL_law_34 (by decide) (fun _ => ?_) (fun c => absurd (by decide) c)
  refine lv_iconst (v := 1) S.1 S.2.1 dL_law_2656 (by decide) ?_
  refine va_forget (fun q hq => by rw [hN]; exact hG.2.1.2.2 q hq) ?_
  refine W.widen (k := 600002) (n := 7302232) (by decide) (by decide) ?_
  exact lw_ret (d0 := s.drawn) (Drawn.sameBut.refl _ _) S.1 S.2.1 hr hlocks dL_law_2657
theorem l13_6 {p : Program} {e : Env} {s : State} {m : MethodId} {below : List Frame} {meth : Method} {c : Code} {b : Nat} {xs : Nat → Int32} {H : Heap} {locs : List Loc} {ls : Array Slot} {n : Nat} {a2 a3 a4 : Int32} (g_a2_ge_1 : 1 ≤ a2) (S : CallFix p m c cL_law 9 s #[.ref b] wsL_law "TreeDifferLaw") (hr : meth.sig.returnType = ret) (hlocks : meth.locks = false) (hst : l.stackTraces = false) (hX : va_X b 5 xs s s.heap) (hbl : b < s.heap.size ∧ b < N0) (hN : s.heap.size = N0) (hn : N0 + 231 ≤ n) (hx1 : xs 1 = 1) (hx2 : xs 2 = a2) (hx3 : xs 3 = a3) (hx4 : xs 4 = a4) (h0 : F N0 = some (.inr (9, [.ref (N0 + 1), .ref (N0 + 2), .ref (N0 + 11), .ref (N0 + 13), .ref (N0 + 63), .ref (N0 + 65), .ref (N0 + 85), .int (-1), .int (-1), .int 32]))) (h1 : F (N0 + 1) = some (.inl (cTr, 3, .inr (.inr (.inr (.inr (va_up (va_up (va_up (fun _ => none) 0 (some (N0 + 143))) 1 (some (N0 + 150))) 2 (some (N0 + 157))))))))) (h2 : F (N0 + 150) = some (.inr (7, [.ref (N0 + 151), .ref (N0 + 152), .ref (N0 + 153), .ref (N0 + 154), .ref (N0 + 155), .ref (N0 + 156), .int 1]))) (h3 : F (N0 + 164) = some (.inr (12, [.ref (N0 + 165), .int 0, .ref (N0 + 181), .int 0, .int 0, .int 0, .int (-1), .ref (ql 24), .ref (N0 + 182), .ref (N0 + 187), .ref (N0 + 208), .ref (N0 + 209), .ref (N0 + 210), .ref (N0 + 211), .ref (N0 + 212), .int 0, .ref (N0 + 213), .ref (N0 + 218), .ref (N0 + 223), .ref (N0 + 224), .ref (N0 + 225), .ref (N0 + 226), .ref (N0 + 227), .int 0, .int 0, .ref (N0 + 228), .null, .int (-1), .int 0, .int 0, .int 0]))) (h4 : F (N0 + 165) = some (.inl (cTm, 3, .inr (.inr (.inr (.inr (va_up (va_up (va_up (fun _ => none) 0 (some (N0 + 166))) 1 (some (N0 + 171))) 2 (some (N0 + 176))))))))) (h5 : F (N0 + 171) = some (.inr (11, [.ref (N0 + 172), .ref (N0 + 173), .ref (N0 + 174), .ref (N0 + 175), .int 1]))) (hG : fG N0 D vwCl (fty cI cC cL cD cII cTr cTm cIt cB) (fen ql) s F n H locs) (hl : lv_has ls 9 [(0, .ref b), (1, .ref N0), (2, .ref (N0 + 164)), (3, .ref (N0 + 229)), (4, .ref (N0 + 230)), (5, .int 0)]) : W p l e { frames := 2048, cells := 600002, slots := 7302232, locals := 84000 } s m #[.ref b] below meth c H locs 231 4980 (lw_Z below #[.ref b] s) (F0 m 1058 ls []) := by
  have lt_h0 := hG.1.lt h0
  have lt_h1 := hG.1.lt h1
  have lt_h2 := hG.1.lt h2
  have lt_h3 := hG.1.lt h3
  have lt_h4 := hG.1.lt h4
  have lt_h5 := hG.1.lt h5
  refine lv_aload_n S.1 S.2.1 dL_law_1058 rfl (lv_at hl 1 rfl) ?_
  refine lv_aload_n S.1 S.2.1 dL_law_1059 rfl (lv_at hl 0 rfl) ?_
  refine lv_iload S.1 S.2.1 dL_law_1060 (lv_at hl 5 rfl) ?_
  refine lv_iconst (v := 1) S.1 S.2.1 dL_law_1062 (by decide) ?_
  refine lv_iadd S.1 S.2.1 dL_law_1063 ?_
  refine fx_topi (y := 1) (by decide) ?_
  refine gx_sld (v := 1) S hG hX hbl (fin_l (by decide)) hx1 dL_law_1064 ?_
  refine lv_aload_n S.1 S.2.1 dL_law_1065 rfl (lv_at hl 0 rfl) ?_
  refine lv_iload S.1 S.2.1 dL_law_1066 (lv_at hl 5 rfl) ?_
  refine lv_iconst (v := 2) S.1 S.2.1 dL_law_1068 (by decide) ?_
  refine lv_iadd S.1 S.2.1 dL_law_1069 ?_
  refine fx_topi (y := 2) (by decide) ?_
  refine gx_sld (v := a2) S hG hX hbl (fin_l (by decide)) hx2 dL_law_1070 ?_
  refine lv_aload_n S.1 S.2.1 dL_law_1071 rfl (lv_at hl 3 rfl) ?_
  refine fx_cTi (As := [.ref N0, .int 1, .int a2, .ref (N0 + 229)]) (rest := []) S hG (k577_L_label g_a2_ge_1 hst (by omega) h0 h1 h2) (vx_cwSW 4 S.2.2.2.2 gL_law_L_label rfl rfl rfl (by decide +kernel) ⟨Nat.le_of_ble_eq_true rfl, Nat.le_of_ble_eq_true rfl⟩) rfl hl.1 rfl (Nat.le_of_ble_eq_true rfl) dL_law_1072 ⟨Nat.le_of_ble_eq_true rfl, Nat.le_of_ble_eq_true rfl⟩ (fun rv_u_1 u_1 H locs hp hG => ?_)
  obtain ⟨rfl, hu_1⟩ := hp
  refine W.widen (k := 232) (n := 4986) (by decide) (by decide) ?_
  refine lv_istore (lv' := [(6, .int 1), (0, .ref b), (1, .ref N0), (2, .ref (N0 + 164)), (3, .ref (N0 + 229)), (4, .ref (N0 + 230)), (5, .int 0)]) S.1 S.2.1 dL_law_1075 hl (by decide) rfl (fun ls hl => ?_)
  refine lv_aload_n S.1 S.2.1 dL_law_1077 rfl (lv_at hl 3 rfl) ?_
  refine lv_aload_n S.1 S.2.1 dL_law_1078 rfl (lv_at hl 1 rfl) ?_
  refine lv_iload S.1 S.2.1 dL_law_1079 (lv_at hl 6 rfl) ?_
  refine lv_iconst (v := 1) S.1 S.2.1 dL_law_1081 (by decide) ?_
  refine lv_iadd S.1 S.2.1 dL_law_1082 ?_
  refine fx_topi (y := 1) (by decide) ?_
  refine gx_sld (v := 1) S hG hX hbl (fin_l (by decide)) hx1 dL_law_1083 ?_
  refine lv_aload_n S.1 S.2.1 dL_law_1084 rfl (lv_at hl 1 rfl) ?_
  refine lv_iload S.1 S.2.1 dL_law_1085 (lv_at hl 6 rfl) ?_
  refine lv_iconst (v := 2) S.1 S.2.1 dL_law_1087 (by decide) ?_
  refine lv_iadd S.1 S.2.1 dL_law_1088 ?_
  refine fx_topi (y := 2) (by decide) ?_
  refine gx_sld (v := a2) S hG hX hbl (fin_l (by decide)) hx2 dL_law_1089 ?_
  refine fx_cVi (As := [.int 1, .int a2]) (rest := []) S hG (k578_X10_label g_a2_ge_1 (by omega) h3 h4 h5) h3 rfl (cwV 2 S.2.2.2.2 gL_law_X10_label rfl rfl rfl (by decide +kernel) ⟨Nat.le_of_ble_eq_true rfl, Nat.le_of_ble_eq_true rfl⟩) rfl hl.1 rfl (Nat.le_of_ble_eq_true rfl) dL_law_1090 ⟨Nat.le_of_ble_eq_true rfl, Nat.le_of_ble_eq_true rfl⟩ (fun rv_2 _ H locs hp hG => ?_)
  subst rv_2
  refine lv_istore (lv' := [(7, .int 0), (6, .int 1), (0, .ref b), (1, .ref N0), (2, .ref (N0 + 164)), (3, .ref (N0 + 229)), (4, .ref (N0 + 230)), (5, .int 0)]) S.1 S.2.1 dL_law_1093 hl (by decide) rfl (fun ls hl => ?_)
  refine lv_aload_n S.1 S.2.1 dL_law_1095 rfl (lv_at hl 4 rfl) ?_
  refine fx_cVi (As := []) (rest := []) S hG (k25_X10_thrown (by omega) fu_s) fu_s rfl (cwV 0 S.2.2.2.2 gL_law_X10_thrown rfl rfl rfl (by decide +kernel) ⟨Nat.le_of_ble_eq_true rfl, Nat.le_of_ble_eq_true rfl⟩) rfl hl.1 rfl (Nat.le_of_ble_eq_true rfl) dL_law_1096 ⟨Nat.le_of_ble_eq_true rfl, Nat.le_of_ble_eq_true rfl⟩ (fun rv_3 _ H locs hp hG => ?_)
  subst rv_3
  refine lv_iload S.1 S.2.1 dL_law_1099 (lv_at hl 1 rfl) ?_
  refine lv_icmp_eq (tgt := 1106) S.1 S.2.1 dL_law_1101 (by decide) (fun _ => ?_) (fun c => absurd (by decide) c)
  refine lv_iload S.1 S.2.1 dL_law_1106 (lv_at hl 1 rfl) ?_
  refine lv_if_ne (tgt := 1123) S.1 S.2.1 dL_law_1108 (by decide) (fun _ => ?_) (fun c => absurd c (by decide))
  refine lv_goto (tgt := 2650) S.1 S.2.1 dL_law_1123 (by decide) ?_
  refine lv_iinc (v := 5) (lv' := [(5, .int 5), (7, .int 0), (6, .int 1), (0, .ref b), (1, .ref N0), (2, .ref (N0 + 164)), (3, .ref (N0 + 229)), (4, .ref (N0 + 230))]) S.1 S.2.1 dL_law_2650 hl (k := 7) rfl (by decide) (by decide) rfl (fun ls hl => ?_)
  refine lv_goto (tgt := 28) S.1 S.2.1 dL_law_2653 (by decide) ?_
  refine lv_iload S.1 S.2.1 dL_law_28 (lv_at hl 0 rfl) ?_
  refine lv_aload_n S.1 S.2.1 dL_law_30 rfl (lv_at hl 3 rfl) ?_
  refine gx_slen (v := 5) S hG hX hbl rfl dL_law_31 ?_
  refine lv_iconst (v := 5) S.1 S.2.1 dL_law_32 (by decide) ?_
  refine lv_isub S.1 S.2.1 dL_law_33 ?_
  refine fx_topi (y := 0) (by decide) ?_
  refine lv_icmp_gt (tgt := 2656) S.1 S.2.1 dL_law_34 (by decide) (fun _ => ?_) (fun c => absurd (by decide) c)
  refine lv_iconst (v := 1) S.1 S.2.1 dL_law_2656 (by decide) ?_
  refine va_forget (fun q hq => by rw [hN]; exact hG.2.1.2.2 q hq) ?_
  refine W.widen (k := 600002) (n := 7302232) (by decide) (by decide) ?_
  exact lw_ret (d0 := s.drawn) (Drawn.sameBut.refl _ _) S.1 S.2.1 hr hlocks dL_law_2657
theorem l13_7 {p : Program} {e : Env} {s : State} {m : MethodId} {below : List Frame} {meth : Method} {c : Code} {b : Nat} {xs : Nat → Int32} {H : Heap} {locs : List Loc} {ls : Array Slot} {n : Nat} {a2 a3 a4 : Int32} (g_a2_le_m1 : a2 ≤ (-1)) (S : CallFix p m c cL_law 9 s #[.ref b] wsL_law "TreeDifferLaw") (hr : meth.sig.returnType = ret) (hlocks : meth.locks = false) (hst : l.stackTraces = false) (hX : va_X b 5 xs s s.heap) (hbl : b < s.heap.size ∧ b < N0) (hN : s.heap.size = N0) (hn : N0 + 231 ≤ n) (hx1 : xs 1 = 2) (hx2 : xs 2 = a2) (hx3 : xs 3 = a3) (hx4 : xs 4 = a4) (h0 : F N0 = some (.inr (9, [.ref (N0 + 1), .ref (N0 + 2), .ref (N0 + 11), .ref (N0 + 13), .ref (N0 + 63), .ref (N0 + 65), .ref (N0 + 85), .int (-1), .int (-1), .int 32]))) (h1 : F (N0 + 1) = some (.inl (cTr, 3, .inr (.inr (.inr (.inr (va_up (va_up (va_up (fun _ => none) 0 (some (N0 + 143))) 1 (some (N0 + 150))) 2 (some (N0 + 157))))))))) (h2 : F (N0 + 157) = some (.inr (7, [.ref (N0 + 158), .ref (N0 + 159), .ref (N0 + 160), .ref (N0 + 161), .ref (N0 + 162), .ref (N0 + 163), .int 1]))) (h3 : F (N0 + 164) = some (.inr (12, [.ref (N0 + 165), .int 0, .ref (N0 + 181), .int 0, .int 0, .int 0, .int (-1), .ref (ql 24), .ref (N0 + 182), .ref (N0 + 187), .ref (N0 + 208), .ref (N0 + 209), .ref (N0 + 210), .ref (N0 + 211), .ref (N0 + 212), .int 0, .ref (N0 + 213), .ref (N0 + 218), .ref (N0 + 223), .ref (N0 + 224), .ref (N0 + 225), .ref (N0 + 226), .ref (N0 + 227), .int 0, .int 0, .ref (N0 + 228), .null, .int (-1), .int 0, .int 0, .int 0]))) (h4 : F (N0 + 165) = some (.inl (cTm, 3, .inr (.inr (.inr (.inr (va_up (va_up (va_up (fun _ => none) 0 (some (N0 + 166))) 1 (some (N0 + 171))) 2 (some (N0 + 176))))))))) (h5 : F (N0 + 176) = some (.inr (11, [.ref (N0 + 177), .ref (N0 + 178), .ref (N0 + 179), .ref (N0 + 180), .int 1]))) (hG : fG N0 D vwCl (fty cI cC cL cD cII cTr cTm cIt cB) (fen ql) s F n H locs) (hl : lv_has ls 9 [(0, .ref b), (1, .ref N0), (2, .ref (N0 + 164)), (3, .ref (N0 + 229)), (4, .ref (N0 + 230)), (5, .int 0)]) : W p l e { frames := 2048, cells := 600002, slots := 7302232, locals := 84000 } s m #[.ref b] below meth c H locs 231 4980 (lw_Z below #[.ref b] s) (F0 m 1058 ls []) := by
  have lt_h0 := hG.1.lt h0
  have lt_h1 := hG.1.lt h1
  have lt_h2 := hG.1.lt h2
  have lt_h3 := hG.1.lt h3
  have lt_h4 := hG.1.lt h4
  have lt_h5 := hG.1.lt h5
  refine lv_aload_n S.1 S.2.1 dL_law_1058 rfl (lv_at hl 1 rfl) ?_
  refine lv_aload_n S.1 S.2.1 dL_law_1059 rfl (lv_at hl 0 rfl) ?_
  refine lv_iload S.1 S.2.1 dL_law_1060 (lv_at hl 5 rfl) ?_
  refine lv_iconst (v := 1) S.1 S.2.1 dL_law_1062 (by decide) ?_
  refine lv_iadd S.1 S.2.1 dL_law_1063 ?_
  refine fx_topi (y := 1) (by decide) ?_
  refine gx_sld (v := 2) S hG hX hbl (fin_l (by decide)) hx1 dL_law_1064 ?_
  refine lv_aload_n S.1 S.2.1 dL_law_1065 rfl (lv_at hl 0 rfl) ?_
  refine lv_iload S.1 S.2.1 dL_law_1066 (lv_at hl 5 rfl) ?_
  refine lv_iconst (v := 2) S.1 S.2.1 dL_law_1068 (by decide) ?_
  refine lv_iadd S.1 S.2.1 dL_law_1069 ?_
  refine fx_topi (y := 2) (by decide) ?_
  refine gx_sld (v := a2) S hG hX hbl (fin_l (by decide)) hx2 dL_law_1070 ?_
  refine lv_aload_n S.1 S.2.1 dL_law_1071 rfl (lv_at hl 3 rfl) ?_
  refine fx_cTi (As := [.ref N0, .int 2, .int a2, .ref (N0 + 229)]) (rest := []) S hG (k580_L_label g_a2_le_m1 hst (by omega) h0 h1 h2) (vx_cwSW 4 S.2.2.2.2 gL_law_L_label rfl rfl rfl (by decide +kernel) ⟨Nat.le_of_ble_eq_true rfl, Nat.le_of_ble_eq_true rfl⟩) rfl hl.1 rfl (Nat.le_of_ble_eq_true rfl) dL_law_1072 ⟨Nat.le_of_ble_eq_true rfl, Nat.le_of_ble_eq_true rfl⟩ (fun rv_u_1 u_1 H locs hp hG => ?_)
  obtain ⟨rfl, hu_1⟩ := hp
  refine W.widen (k := 232) (n := 4986) (by decide) (by decide) ?_
  refine lv_istore (lv' := [(6, .int 1), (0, .ref b), (1, .ref N0), (2, .ref (N0 + 164)), (3, .ref (N0 + 229)), (4, .ref (N0 + 230)), (5, .int 0)]) S.1 S.2.1 dL_law_1075 hl (by decide) rfl (fun ls hl => ?_)
  refine lv_aload_n S.1 S.2.1 dL_law_1077 rfl (lv_at hl 3 rfl) ?_
  refine lv_aload_n S.1 S.2.1 dL_law_1078 rfl (lv_at hl 1 rfl) ?_
  refine lv_iload S.1 S.2.1 dL_law_1079 (lv_at hl 6 rfl) ?_
  refine lv_iconst (v := 1) S.1 S.2.1 dL_law_1081 (by decide) ?_
  refine lv_iadd S.1 S.2.1 dL_law_1082 ?_
  refine fx_topi (y := 1) (by decide) ?_
  refine gx_sld (v := 2) S hG hX hbl (fin_l (by decide)) hx1 dL_law_1083 ?_
  refine lv_aload_n S.1 S.2.1 dL_law_1084 rfl (lv_at hl 1 rfl) ?_
  refine lv_iload S.1 S.2.1 dL_law_1085 (lv_at hl 6 rfl) ?_
  refine lv_iconst (v := 2) S.1 S.2.1 dL_law_1087 (by decide) ?_
  refine lv_iadd S.1 S.2.1 dL_law_1088 ?_
  refine fx_topi (y := 2) (by decide) ?_
  refine gx_sld (v := a2) S hG hX hbl (fin_l (by decide)) hx2 dL_law_1089 ?_
  refine fx_cVi (As := [.int 2, .int a2]) (rest := []) S hG (k581_X10_label g_a2_le_m1 (by omega) h3 h4 h5) h3 rfl (cwV 2 S.2.2.2.2 gL_law_X10_label rfl rfl rfl (by decide +kernel) ⟨Nat.le_of_ble_eq_true rfl, Nat.le_of_ble_eq_true rfl⟩) rfl hl.1 rfl (Nat.le_of_ble_eq_true rfl) dL_law_1090 ⟨Nat.le_of_ble_eq_true rfl, Nat.le_of_ble_eq_true rfl⟩ (fun rv_2 _ H locs hp hG => ?_)
  subst rv_2
  refine lv_istore (lv' := [(7, .int 0), (6, .int 1), (0, .ref b), (1, .ref N0), (2, .ref (N0 + 164)), (3, .ref (N0 + 229)), (4, .ref (N0 + 230)), (5, .int 0)]) S.1 S.2.1 dL_law_1093 hl (by decide) rfl (fun ls hl => ?_)
  refine lv_aload_n S.1 S.2.1 dL_law_1095 rfl (lv_at hl 4 rfl) ?_
  refine fx_cVi (As := []) (rest := []) S hG (k25_X10_thrown (by omega) fu_s) fu_s rfl (cwV 0 S.2.2.2.2 gL_law_X10_thrown rfl rfl rfl (by decide +kernel) ⟨Nat.le_of_ble_eq_true rfl, Nat.le_of_ble_eq_true rfl⟩) rfl hl.1 rfl (Nat.le_of_ble_eq_true rfl) dL_law_1096 ⟨Nat.le_of_ble_eq_true rfl, Nat.le_of_ble_eq_true rfl⟩ (fun rv_3 _ H locs hp hG => ?_)
  subst rv_3
  refine lv_iload S.1 S.2.1 dL_law_1099 (lv_at hl 1 rfl) ?_
  refine lv_icmp_eq (tgt := 1106) S.1 S.2.1 dL_law_1101 (by decide) (fun _ => ?_) (fun c => absurd (by decide) c)
  refine lv_iload S.1 S.2.1 dL_law_1106 (lv_at hl 1 rfl) ?_
  refine lv_if_ne (tgt := 1123) S.1 S.2.1 dL_law_1108 (by decide) (fun _ => ?_) (fun c => absurd c (by decide))
  refine lv_goto (tgt := 2650) S.1 S.2.1 dL_law_1123 (by decide) ?_
  refine lv_iinc (v := 5) (lv' := [(5, .int 5), (7, .int 0), (6, .int 1), (0, .ref b), (1, .ref N0), (2, .ref (N0 + 164)), (3, .ref (N0 + 229)), (4, .ref (N0 + 230))]) S.1 S.2.1 dL_law_2650 hl (k := 7) rfl (by decide) (by decide) rfl (fun ls hl => ?_)
  refine lv_goto (tgt := 28) S.1 S.2.1 dL_law_2653 (by decide) ?_
  refine lv_iload S.1 S.2.1 dL_law_28 (lv_at hl 0 rfl) ?_
  refine lv_aload_n S.1 S.2.1 dL_law_30 rfl (lv_at hl 3 rfl) ?_
  refine gx_slen (v := 5) S hG hX hbl rfl dL_law_31 ?_
  refine lv_iconst (v := 5) S.1 S.2.1 dL_law_32 (by decide) ?_
  refine lv_isub S.1 S.2.1 dL_law_33 ?_
  refine fx_topi (y := 0) (by decide) ?_
  refine lv_icmp_gt (tgt := 2656) S.1 S.2.1 dL_law_34 (by decide) (fun _ => ?_) (fun c => absurd (by decide) c)
  refine lv_iconst (v := 1) S.1 S.2.1 dL_law_2656 (by decide) ?_
  refine va_forget (fun q hq => by rw [hN]; exact hG.2.1.2.2 q hq) ?_
  refine W.widen (k := 600002) (n := 7302232) (by decide) (by decide) ?_
  exact lw_ret (d0 := s.drawn) (Drawn.sameBut.refl _ _) S.1 S.2.1 hr hlocks dL_law_2657
theorem l13_8 {p : Program} {e : Env} {s : State} {m : MethodId} {below : List Frame} {meth : Method} {c : Code} {b : Nat} {xs : Nat → Int32} {H : Heap} {locs : List Loc} {ls : Array Slot} {n : Nat} {a3 a4 : Int32} (S : CallFix p m c cL_law 9 s #[.ref b] wsL_law "TreeDifferLaw") (hr : meth.sig.returnType = ret) (hlocks : meth.locks = false) (hst : l.stackTraces = false) (hX : va_X b 5 xs s s.heap) (hbl : b < s.heap.size ∧ b < N0) (hN : s.heap.size = N0) (hn : N0 + 231 ≤ n) (hx1 : xs 1 = 2) (hx2 : xs 2 = 0) (hx3 : xs 3 = a3) (hx4 : xs 4 = a4) (h0 : F N0 = some (.inr (9, [.ref (N0 + 1), .ref (N0 + 2), .ref (N0 + 11), .ref (N0 + 13), .ref (N0 + 63), .ref (N0 + 65), .ref (N0 + 85), .int (-1), .int (-1), .int 32]))) (h1 : F (N0 + 1) = some (.inl (cTr, 3, .inr (.inr (.inr (.inr (va_up (va_up (va_up (fun _ => none) 0 (some (N0 + 143))) 1 (some (N0 + 150))) 2 (some (N0 + 157))))))))) (h2 : F (N0 + 157) = some (.inr (7, [.ref (N0 + 158), .ref (N0 + 159), .ref (N0 + 160), .ref (N0 + 161), .ref (N0 + 162), .ref (N0 + 163), .int 1]))) (h3 : F (N0 + 158) = some (.inl (cC, 20, .inl (upd (fun _ => 0) 0 97)))) (h4 : F (N0 + 229) = some (.inl (cL, 1, .inr (.inl (fun _ => 0))))) (h5 : F (N0 + 164) = some (.inr (12, [.ref (N0 + 165), .int 0, .ref (N0 + 181), .int 0, .int 0, .int 0, .int (-1), .ref (ql 24), .ref (N0 + 182), .ref (N0 + 187), .ref (N0 + 208), .ref (N0 + 209), .ref (N0 + 210), .ref (N0 + 211), .ref (N0 + 212), .int 0, .ref (N0 + 213), .ref (N0 + 218), .ref (N0 + 223), .ref (N0 + 224), .ref (N0 + 225), .ref (N0 + 226), .ref (N0 + 227), .int 0, .int 0, .ref (N0 + 228), .null, .int (-1), .int 0, .int 0, .int 0]))) (h6 : F (N0 + 165) = some (.inl (cTm, 3, .inr (.inr (.inr (.inr (va_up (va_up (va_up (fun _ => none) 0 (some (N0 + 166))) 1 (some (N0 + 171))) 2 (some (N0 + 176))))))))) (h7 : F (N0 + 176) = some (.inr (11, [.ref (N0 + 177), .ref (N0 + 178), .ref (N0 + 179), .ref (N0 + 180), .int 1]))) (h8 : F (N0 + 177) = some (.inl (cI, 20, .inl (upd (fun _ => 0) 0 97)))) (hG : fG N0 D vwCl (fty cI cC cL cD cII cTr cTm cIt cB) (fen ql) s F n H locs) (hl : lv_has ls 9 [(0, .ref b), (1, .ref N0), (2, .ref (N0 + 164)), (3, .ref (N0 + 229)), (4, .ref (N0 + 230)), (5, .int 0)]) : W p l e { frames := 2048, cells := 600002, slots := 7302232, locals := 84000 } s m #[.ref b] below meth c H locs 231 4980 (lw_Z below #[.ref b] s) (F0 m 1058 ls []) := by
  have lt_h0 := hG.1.lt h0
  have lt_h1 := hG.1.lt h1
  have lt_h2 := hG.1.lt h2
  have lt_h3 := hG.1.lt h3
  have lt_h4 := hG.1.lt h4
  have lt_h5 := hG.1.lt h5
  have lt_h6 := hG.1.lt h6
  have lt_h7 := hG.1.lt h7
  have lt_h8 := hG.1.lt h8
  refine lv_aload_n S.1 S.2.1 dL_law_1058 rfl (lv_at hl 1 rfl) ?_
  refine lv_aload_n S.1 S.2.1 dL_law_1059 rfl (lv_at hl 0 rfl) ?_
  refine lv_iload S.1 S.2.1 dL_law_1060 (lv_at hl 5 rfl) ?_
  refine lv_iconst (v := 1) S.1 S.2.1 dL_law_1062 (by decide) ?_
  refine lv_iadd S.1 S.2.1 dL_law_1063 ?_
  refine fx_topi (y := 1) (by decide) ?_
  refine gx_sld (v := 2) S hG hX hbl (fin_l (by decide)) hx1 dL_law_1064 ?_
  refine lv_aload_n S.1 S.2.1 dL_law_1065 rfl (lv_at hl 0 rfl) ?_
  refine lv_iload S.1 S.2.1 dL_law_1066 (lv_at hl 5 rfl) ?_
  refine lv_iconst (v := 2) S.1 S.2.1 dL_law_1068 (by decide) ?_
  refine lv_iadd S.1 S.2.1 dL_law_1069 ?_
  refine fx_topi (y := 2) (by decide) ?_
  refine gx_sld (v := 0) S hG hX hbl (fin_l (by decide)) hx2 dL_law_1070 ?_
  refine lv_aload_n S.1 S.2.1 dL_law_1071 rfl (lv_at hl 3 rfl) ?_
  refine fx_cTi (As := [.ref N0, .int 2, .int 0, .ref (N0 + 229)]) (rest := []) S hG (k583_L_label (by omega) h0 h1 h2 h3 h4) (vx_cwSW 4 S.2.2.2.2 gL_law_L_label rfl rfl rfl (by decide +kernel) ⟨Nat.le_of_ble_eq_true rfl, Nat.le_of_ble_eq_true rfl⟩) rfl hl.1 rfl (Nat.le_of_ble_eq_true rfl) dL_law_1072 ⟨Nat.le_of_ble_eq_true rfl, Nat.le_of_ble_eq_true rfl⟩ (fun rv_1 _ H locs hp hG => ?_)
  subst rv_1
  refine lv_istore (lv' := [(6, .int 0), (0, .ref b), (1, .ref N0), (2, .ref (N0 + 164)), (3, .ref (N0 + 229)), (4, .ref (N0 + 230)), (5, .int 0)]) S.1 S.2.1 dL_law_1075 hl (by decide) rfl (fun ls hl => ?_)
  refine lv_aload_n S.1 S.2.1 dL_law_1077 rfl (lv_at hl 3 rfl) ?_
  refine lv_aload_n S.1 S.2.1 dL_law_1078 rfl (lv_at hl 1 rfl) ?_
  refine lv_iload S.1 S.2.1 dL_law_1079 (lv_at hl 6 rfl) ?_
  refine lv_iconst (v := 1) S.1 S.2.1 dL_law_1081 (by decide) ?_
  refine lv_iadd S.1 S.2.1 dL_law_1082 ?_
  refine fx_topi (y := 1) (by decide) ?_
  refine gx_sld (v := 2) S hG hX hbl (fin_l (by decide)) hx1 dL_law_1083 ?_
  refine lv_aload_n S.1 S.2.1 dL_law_1084 rfl (lv_at hl 1 rfl) ?_
  refine lv_iload S.1 S.2.1 dL_law_1085 (lv_at hl 6 rfl) ?_
  refine lv_iconst (v := 2) S.1 S.2.1 dL_law_1087 (by decide) ?_
  refine lv_iadd S.1 S.2.1 dL_law_1088 ?_
  refine fx_topi (y := 2) (by decide) ?_
  refine gx_sld (v := 0) S hG hX hbl (fin_l (by decide)) hx2 dL_law_1089 ?_
  refine fx_cVi (As := [.int 2, .int 0]) (rest := []) S hG (k584_X10_label (by omega) (fu_at (by omega) h5) (fu_at (by omega) h6) (fu_at (by omega) h7) (fu_at (by omega) h8)) (fu_at (by omega) h5) rfl (cwV 2 S.2.2.2.2 gL_law_X10_label rfl rfl rfl (by decide +kernel) ⟨Nat.le_of_ble_eq_true rfl, Nat.le_of_ble_eq_true rfl⟩) rfl hl.1 rfl (Nat.le_of_ble_eq_true rfl) dL_law_1090 ⟨Nat.le_of_ble_eq_true rfl, Nat.le_of_ble_eq_true rfl⟩ (fun rv_2 _ H locs hp hG => ?_)
  subst rv_2
  refine lv_istore (lv' := [(7, .int 97), (6, .int 0), (0, .ref b), (1, .ref N0), (2, .ref (N0 + 164)), (3, .ref (N0 + 229)), (4, .ref (N0 + 230)), (5, .int 0)]) S.1 S.2.1 dL_law_1093 hl (by decide) rfl (fun ls hl => ?_)
  refine lv_aload_n S.1 S.2.1 dL_law_1095 rfl (lv_at hl 4 rfl) ?_
  refine fx_cVi (As := []) (rest := []) S hG (k117_X10_thrown (by omega) fu_s) fu_s rfl (cwV 0 S.2.2.2.2 gL_law_X10_thrown rfl rfl rfl (by decide +kernel) ⟨Nat.le_of_ble_eq_true rfl, Nat.le_of_ble_eq_true rfl⟩) rfl hl.1 rfl (Nat.le_of_ble_eq_true rfl) dL_law_1096 ⟨Nat.le_of_ble_eq_true rfl, Nat.le_of_ble_eq_true rfl⟩ (fun rv_3 _ H locs hp hG => ?_)
  subst rv_3
  refine lv_iload S.1 S.2.1 dL_law_1099 (lv_at hl 1 rfl) ?_
  refine lv_icmp_eq (tgt := 1106) S.1 S.2.1 dL_law_1101 (by decide) (fun _ => ?_) (fun c => absurd (by decide) c)
  refine lv_iload S.1 S.2.1 dL_law_1106 (lv_at hl 1 rfl) ?_
  refine lv_if_ne (tgt := 1123) S.1 S.2.1 dL_law_1108 (by decide) (fun c => absurd (by decide) c) (fun _ => ?_)
  refine lv_aload_n S.1 S.2.1 dL_law_1111 rfl (lv_at hl 5 rfl) ?_
  refine lv_iconst (v := 0) S.1 S.2.1 dL_law_1112 (by decide) ?_
  refine gx_lald (v := 97) S hG 2 (fu_at (by omega) fu_s) rfl (fin_l (by decide)) rfl dL_law_1113 ?_
  refine lv_iload S.1 S.2.1 dL_law_1114 (lv_at hl 0 rfl) ?_
  refine lv_i2l (v := 97) S.1 S.2.1 dL_law_1116 (by decide) ?_
  refine gx_lcmpEq S rfl dL_law_1117 ?_
  refine lv_if_eq (tgt := 1123) S.1 S.2.1 dL_law_1118 (by decide) (fun _ => ?_) (fun c => absurd (by decide) c)
  refine lv_goto (tgt := 2650) S.1 S.2.1 dL_law_1123 (by decide) ?_
  refine lv_iinc (v := 5) (lv' := [(5, .int 5), (7, .int 97), (6, .int 0), (0, .ref b), (1, .ref N0), (2, .ref (N0 + 164)), (3, .ref (N0 + 229)), (4, .ref (N0 + 230))]) S.1 S.2.1 dL_law_2650 hl (k := 7) rfl (by decide) (by decide) rfl (fun ls hl => ?_)
  refine lv_goto (tgt := 28) S.1 S.2.1 dL_law_2653 (by decide) ?_
  refine lv_iload S.1 S.2.1 dL_law_28 (lv_at hl 0 rfl) ?_
  refine lv_aload_n S.1 S.2.1 dL_law_30 rfl (lv_at hl 3 rfl) ?_
  refine gx_slen (v := 5) S hG hX hbl rfl dL_law_31 ?_
  refine lv_iconst (v := 5) S.1 S.2.1 dL_law_32 (by decide) ?_
  refine lv_isub S.1 S.2.1 dL_law_33 ?_
  refine fx_topi (y := 0) (by decide) ?_
  refine lv_icmp_gt (tgt := 2656) S.1 S.2.1 dL_law_34 (by decide) (fun _ => ?_) (fun c => absurd (by decide) c)
  refine lv_iconst (v := 1) S.1 S.2.1 dL_law_2656 (by decide) ?_
  refine va_forget (fun q hq => by rw [hN]; exact hG.2.1.2.2 q hq) ?_
  refine W.widen (k := 600002) (n := 7302232) (by decide) (by decide) ?_
  exact lw_ret (d0 := s.drawn) (Drawn.sameBut.refl _ _) S.1 S.2.1 hr hlocks dL_law_2657
theorem l13_9 {p : Program} {e : Env} {s : State} {m : MethodId} {below : List Frame} {meth : Method} {c : Code} {b : Nat} {xs : Nat → Int32} {H : Heap} {locs : List Loc} {ls : Array Slot} {n : Nat} {a2 a3 a4 : Int32} (g_a2_ge_1 : 1 ≤ a2) (S : CallFix p m c cL_law 9 s #[.ref b] wsL_law "TreeDifferLaw") (hr : meth.sig.returnType = ret) (hlocks : meth.locks = false) (hst : l.stackTraces = false) (hX : va_X b 5 xs s s.heap) (hbl : b < s.heap.size ∧ b < N0) (hN : s.heap.size = N0) (hn : N0 + 231 ≤ n) (hx1 : xs 1 = 2) (hx2 : xs 2 = a2) (hx3 : xs 3 = a3) (hx4 : xs 4 = a4) (h0 : F N0 = some (.inr (9, [.ref (N0 + 1), .ref (N0 + 2), .ref (N0 + 11), .ref (N0 + 13), .ref (N0 + 63), .ref (N0 + 65), .ref (N0 + 85), .int (-1), .int (-1), .int 32]))) (h1 : F (N0 + 1) = some (.inl (cTr, 3, .inr (.inr (.inr (.inr (va_up (va_up (va_up (fun _ => none) 0 (some (N0 + 143))) 1 (some (N0 + 150))) 2 (some (N0 + 157))))))))) (h2 : F (N0 + 157) = some (.inr (7, [.ref (N0 + 158), .ref (N0 + 159), .ref (N0 + 160), .ref (N0 + 161), .ref (N0 + 162), .ref (N0 + 163), .int 1]))) (h3 : F (N0 + 164) = some (.inr (12, [.ref (N0 + 165), .int 0, .ref (N0 + 181), .int 0, .int 0, .int 0, .int (-1), .ref (ql 24), .ref (N0 + 182), .ref (N0 + 187), .ref (N0 + 208), .ref (N0 + 209), .ref (N0 + 210), .ref (N0 + 211), .ref (N0 + 212), .int 0, .ref (N0 + 213), .ref (N0 + 218), .ref (N0 + 223), .ref (N0 + 224), .ref (N0 + 225), .ref (N0 + 226), .ref (N0 + 227), .int 0, .int 0, .ref (N0 + 228), .null, .int (-1), .int 0, .int 0, .int 0]))) (h4 : F (N0 + 165) = some (.inl (cTm, 3, .inr (.inr (.inr (.inr (va_up (va_up (va_up (fun _ => none) 0 (some (N0 + 166))) 1 (some (N0 + 171))) 2 (some (N0 + 176))))))))) (h5 : F (N0 + 176) = some (.inr (11, [.ref (N0 + 177), .ref (N0 + 178), .ref (N0 + 179), .ref (N0 + 180), .int 1]))) (hG : fG N0 D vwCl (fty cI cC cL cD cII cTr cTm cIt cB) (fen ql) s F n H locs) (hl : lv_has ls 9 [(0, .ref b), (1, .ref N0), (2, .ref (N0 + 164)), (3, .ref (N0 + 229)), (4, .ref (N0 + 230)), (5, .int 0)]) : W p l e { frames := 2048, cells := 600002, slots := 7302232, locals := 84000 } s m #[.ref b] below meth c H locs 231 4980 (lw_Z below #[.ref b] s) (F0 m 1058 ls []) := by
  have lt_h0 := hG.1.lt h0
  have lt_h1 := hG.1.lt h1
  have lt_h2 := hG.1.lt h2
  have lt_h3 := hG.1.lt h3
  have lt_h4 := hG.1.lt h4
  have lt_h5 := hG.1.lt h5
  refine lv_aload_n S.1 S.2.1 dL_law_1058 rfl (lv_at hl 1 rfl) ?_
  refine lv_aload_n S.1 S.2.1 dL_law_1059 rfl (lv_at hl 0 rfl) ?_
  refine lv_iload S.1 S.2.1 dL_law_1060 (lv_at hl 5 rfl) ?_
  refine lv_iconst (v := 1) S.1 S.2.1 dL_law_1062 (by decide) ?_
  refine lv_iadd S.1 S.2.1 dL_law_1063 ?_
  refine fx_topi (y := 1) (by decide) ?_
  refine gx_sld (v := 2) S hG hX hbl (fin_l (by decide)) hx1 dL_law_1064 ?_
  refine lv_aload_n S.1 S.2.1 dL_law_1065 rfl (lv_at hl 0 rfl) ?_
  refine lv_iload S.1 S.2.1 dL_law_1066 (lv_at hl 5 rfl) ?_
  refine lv_iconst (v := 2) S.1 S.2.1 dL_law_1068 (by decide) ?_
  refine lv_iadd S.1 S.2.1 dL_law_1069 ?_
  refine fx_topi (y := 2) (by decide) ?_
  refine gx_sld (v := a2) S hG hX hbl (fin_l (by decide)) hx2 dL_law_1070 ?_
  refine lv_aload_n S.1 S.2.1 dL_law_1071 rfl (lv_at hl 3 rfl) ?_
  refine fx_cTi (As := [.ref N0, .int 2, .int a2, .ref (N0 + 229)]) (rest := []) S hG (k586_L_label g_a2_ge_1 hst (by omega) h0 h1 h2) (vx_cwSW 4 S.2.2.2.2 gL_law_L_label rfl rfl rfl (by decide +kernel) ⟨Nat.le_of_ble_eq_true rfl, Nat.le_of_ble_eq_true rfl⟩) rfl hl.1 rfl (Nat.le_of_ble_eq_true rfl) dL_law_1072 ⟨Nat.le_of_ble_eq_true rfl, Nat.le_of_ble_eq_true rfl⟩ (fun rv_u_1 u_1 H locs hp hG => ?_)
  obtain ⟨rfl, hu_1⟩ := hp
  refine W.widen (k := 232) (n := 4986) (by decide) (by decide) ?_
  refine lv_istore (lv' := [(6, .int 1), (0, .ref b), (1, .ref N0), (2, .ref (N0 + 164)), (3, .ref (N0 + 229)), (4, .ref (N0 + 230)), (5, .int 0)]) S.1 S.2.1 dL_law_1075 hl (by decide) rfl (fun ls hl => ?_)
  refine lv_aload_n S.1 S.2.1 dL_law_1077 rfl (lv_at hl 3 rfl) ?_
  refine lv_aload_n S.1 S.2.1 dL_law_1078 rfl (lv_at hl 1 rfl) ?_
  refine lv_iload S.1 S.2.1 dL_law_1079 (lv_at hl 6 rfl) ?_
  refine lv_iconst (v := 1) S.1 S.2.1 dL_law_1081 (by decide) ?_
  refine lv_iadd S.1 S.2.1 dL_law_1082 ?_
  refine fx_topi (y := 1) (by decide) ?_
  refine gx_sld (v := 2) S hG hX hbl (fin_l (by decide)) hx1 dL_law_1083 ?_
  refine lv_aload_n S.1 S.2.1 dL_law_1084 rfl (lv_at hl 1 rfl) ?_
  refine lv_iload S.1 S.2.1 dL_law_1085 (lv_at hl 6 rfl) ?_
  refine lv_iconst (v := 2) S.1 S.2.1 dL_law_1087 (by decide) ?_
  refine lv_iadd S.1 S.2.1 dL_law_1088 ?_
  refine fx_topi (y := 2) (by decide) ?_
  refine gx_sld (v := a2) S hG hX hbl (fin_l (by decide)) hx2 dL_law_1089 ?_
  refine fx_cVi (As := [.int 2, .int a2]) (rest := []) S hG (k587_X10_label g_a2_ge_1 (by omega) h3 h4 h5) h3 rfl (cwV 2 S.2.2.2.2 gL_law_X10_label rfl rfl rfl (by decide +kernel) ⟨Nat.le_of_ble_eq_true rfl, Nat.le_of_ble_eq_true rfl⟩) rfl hl.1 rfl (Nat.le_of_ble_eq_true rfl) dL_law_1090 ⟨Nat.le_of_ble_eq_true rfl, Nat.le_of_ble_eq_true rfl⟩ (fun rv_2 _ H locs hp hG => ?_)
  subst rv_2
  refine lv_istore (lv' := [(7, .int 0), (6, .int 1), (0, .ref b), (1, .ref N0), (2, .ref (N0 + 164)), (3, .ref (N0 + 229)), (4, .ref (N0 + 230)), (5, .int 0)]) S.1 S.2.1 dL_law_1093 hl (by decide) rfl (fun ls hl => ?_)
  refine lv_aload_n S.1 S.2.1 dL_law_1095 rfl (lv_at hl 4 rfl) ?_
  refine fx_cVi (As := []) (rest := []) S hG (k25_X10_thrown (by omega) fu_s) fu_s rfl (cwV 0 S.2.2.2.2 gL_law_X10_thrown rfl rfl rfl (by decide +kernel) ⟨Nat.le_of_ble_eq_true rfl, Nat.le_of_ble_eq_true rfl⟩) rfl hl.1 rfl (Nat.le_of_ble_eq_true rfl) dL_law_1096 ⟨Nat.le_of_ble_eq_true rfl, Nat.le_of_ble_eq_true rfl⟩ (fun rv_3 _ H locs hp hG => ?_)
  subst rv_3
  refine lv_iload S.1 S.2.1 dL_law_1099 (lv_at hl 1 rfl) ?_
  refine lv_icmp_eq (tgt := 1106) S.1 S.2.1 dL_law_1101 (by decide) (fun _ => ?_) (fun c => absurd (by decide) c)
  refine lv_iload S.1 S.2.1 dL_law_1106 (lv_at hl 1 rfl) ?_
  refine lv_if_ne (tgt := 1123) S.1 S.2.1 dL_law_1108 (by decide) (fun _ => ?_) (fun c => absurd c (by decide))
  refine lv_goto (tgt := 2650) S.1 S.2.1 dL_law_1123 (by decide) ?_
  refine lv_iinc (v := 5) (lv' := [(5, .int 5), (7, .int 0), (6, .int 1), (0, .ref b), (1, .ref N0), (2, .ref (N0 + 164)), (3, .ref (N0 + 229)), (4, .ref (N0 + 230))]) S.1 S.2.1 dL_law_2650 hl (k := 7) rfl (by decide) (by decide) rfl (fun ls hl => ?_)
  refine lv_goto (tgt := 28) S.1 S.2.1 dL_law_2653 (by decide) ?_
  refine lv_iload S.1 S.2.1 dL_law_28 (lv_at hl 0 rfl) ?_
  refine lv_aload_n S.1 S.2.1 dL_law_30 rfl (lv_at hl 3 rfl) ?_
  refine gx_slen (v := 5) S hG hX hbl rfl dL_law_31 ?_
  refine lv_iconst (v := 5) S.1 S.2.1 dL_law_32 (by decide) ?_
  refine lv_isub S.1 S.2.1 dL_law_33 ?_
  refine fx_topi (y := 0) (by decide) ?_
  refine lv_icmp_gt (tgt := 2656) S.1 S.2.1 dL_law_34 (by decide) (fun _ => ?_) (fun c => absurd (by decide) c)
  refine lv_iconst (v := 1) S.1 S.2.1 dL_law_2656 (by decide) ?_
  refine va_forget (fun q hq => by rw [hN]; exact hG.2.1.2.2 q hq) ?_
  refine W.widen (k := 600002) (n := 7302232) (by decide) (by decide) ?_
  exact lw_ret (d0 := s.drawn) (Drawn.sameBut.refl _ _) S.1 S.2.1 hr hlocks dL_law_2657
theorem l13_10 {p : Program} {e : Env} {s : State} {m : MethodId} {below : List Frame} {meth : Method} {c : Code} {b : Nat} {xs : Nat → Int32} {H : Heap} {locs : List Loc} {ls : Array Slot} {n : Nat} {a1 a2 a3 a4 : Int32} (g_a1_ge_3 : 3 ≤ a1) (S : CallFix p m c cL_law 9 s #[.ref b] wsL_law "TreeDifferLaw") (hr : meth.sig.returnType = ret) (hlocks : meth.locks = false) (hst : l.stackTraces = false) (hX : va_X b 5 xs s s.heap) (hbl : b < s.heap.size ∧ b < N0) (hN : s.heap.size = N0) (hn : N0 + 231 ≤ n) (hx1 : xs 1 = a1) (hx2 : xs 2 = a2) (hx3 : xs 3 = a3) (hx4 : xs 4 = a4) (h0 : F N0 = some (.inr (9, [.ref (N0 + 1), .ref (N0 + 2), .ref (N0 + 11), .ref (N0 + 13), .ref (N0 + 63), .ref (N0 + 65), .ref (N0 + 85), .int (-1), .int (-1), .int 32]))) (h1 : F (N0 + 164) = some (.inr (12, [.ref (N0 + 165), .int 0, .ref (N0 + 181), .int 0, .int 0, .int 0, .int (-1), .ref (ql 24), .ref (N0 + 182), .ref (N0 + 187), .ref (N0 + 208), .ref (N0 + 209), .ref (N0 + 210), .ref (N0 + 211), .ref (N0 + 212), .int 0, .ref (N0 + 213), .ref (N0 + 218), .ref (N0 + 223), .ref (N0 + 224), .ref (N0 + 225), .ref (N0 + 226), .ref (N0 + 227), .int 0, .int 0, .ref (N0 + 228), .null, .int (-1), .int 0, .int 0, .int 0]))) (hG : fG N0 D vwCl (fty cI cC cL cD cII cTr cTm cIt cB) (fen ql) s F n H locs) (hl : lv_has ls 9 [(0, .ref b), (1, .ref N0), (2, .ref (N0 + 164)), (3, .ref (N0 + 229)), (4, .ref (N0 + 230)), (5, .int 0)]) : W p l e { frames := 2048, cells := 600002, slots := 7302232, locals := 84000 } s m #[.ref b] below meth c H locs 231 4980 (lw_Z below #[.ref b] s) (F0 m 1058 ls []) := by
  have lt_h0 := hG.1.lt h0
  have lt_h1 := hG.1.lt h1
  refine lv_aload_n S.1 S.2.1 dL_law_1058 rfl (lv_at hl 1 rfl) ?_
  refine lv_aload_n S.1 S.2.1 dL_law_1059 rfl (lv_at hl 0 rfl) ?_
  refine lv_iload S.1 S.2.1 dL_law_1060 (lv_at hl 5 rfl) ?_
  refine lv_iconst (v := 1) S.1 S.2.1 dL_law_1062 (by decide) ?_
  refine lv_iadd S.1 S.2.1 dL_law_1063 ?_
  refine fx_topi (y := 1) (by decide) ?_
  refine gx_sld (v := a1) S hG hX hbl (fin_l (by decide)) hx1 dL_law_1064 ?_
  refine lv_aload_n S.1 S.2.1 dL_law_1065 rfl (lv_at hl 0 rfl) ?_
  refine lv_iload S.1 S.2.1 dL_law_1066 (lv_at hl 5 rfl) ?_
  refine lv_iconst (v := 2) S.1 S.2.1 dL_law_1068 (by decide) ?_
  refine lv_iadd S.1 S.2.1 dL_law_1069 ?_
  refine fx_topi (y := 2) (by decide) ?_
  refine gx_sld (v := a2) S hG hX hbl (fin_l (by decide)) hx2 dL_law_1070 ?_
  refine lv_aload_n S.1 S.2.1 dL_law_1071 rfl (lv_at hl 3 rfl) ?_
  refine fx_cTi (As := [.ref N0, .int a1, .int a2, .ref (N0 + 229)]) (rest := []) S hG (k589_L_label g_a1_ge_3 hst (by omega) h0) (vx_cwSW 4 S.2.2.2.2 gL_law_L_label rfl rfl rfl (by decide +kernel) ⟨Nat.le_of_ble_eq_true rfl, Nat.le_of_ble_eq_true rfl⟩) rfl hl.1 rfl (Nat.le_of_ble_eq_true rfl) dL_law_1072 ⟨Nat.le_of_ble_eq_true rfl, Nat.le_of_ble_eq_true rfl⟩ (fun rv_u_1 u_1 H locs hp hG => ?_)
  obtain ⟨rfl, hu_1⟩ := hp
  refine W.widen (k := 232) (n := 4986) (by decide) (by decide) ?_
  refine lv_istore (lv' := [(6, .int 1), (0, .ref b), (1, .ref N0), (2, .ref (N0 + 164)), (3, .ref (N0 + 229)), (4, .ref (N0 + 230)), (5, .int 0)]) S.1 S.2.1 dL_law_1075 hl (by decide) rfl (fun ls hl => ?_)
  refine lv_aload_n S.1 S.2.1 dL_law_1077 rfl (lv_at hl 3 rfl) ?_
  refine lv_aload_n S.1 S.2.1 dL_law_1078 rfl (lv_at hl 1 rfl) ?_
  refine lv_iload S.1 S.2.1 dL_law_1079 (lv_at hl 6 rfl) ?_
  refine lv_iconst (v := 1) S.1 S.2.1 dL_law_1081 (by decide) ?_
  refine lv_iadd S.1 S.2.1 dL_law_1082 ?_
  refine fx_topi (y := 1) (by decide) ?_
  refine gx_sld (v := a1) S hG hX hbl (fin_l (by decide)) hx1 dL_law_1083 ?_
  refine lv_aload_n S.1 S.2.1 dL_law_1084 rfl (lv_at hl 1 rfl) ?_
  refine lv_iload S.1 S.2.1 dL_law_1085 (lv_at hl 6 rfl) ?_
  refine lv_iconst (v := 2) S.1 S.2.1 dL_law_1087 (by decide) ?_
  refine lv_iadd S.1 S.2.1 dL_law_1088 ?_
  refine fx_topi (y := 2) (by decide) ?_
  refine gx_sld (v := a2) S hG hX hbl (fin_l (by decide)) hx2 dL_law_1089 ?_
  refine fx_cVi (As := [.int a1, .int a2]) (rest := []) S hG (k590_X10_label g_a1_ge_3 (by omega) h1) h1 rfl (cwV 2 S.2.2.2.2 gL_law_X10_label rfl rfl rfl (by decide +kernel) ⟨Nat.le_of_ble_eq_true rfl, Nat.le_of_ble_eq_true rfl⟩) rfl hl.1 rfl (Nat.le_of_ble_eq_true rfl) dL_law_1090 ⟨Nat.le_of_ble_eq_true rfl, Nat.le_of_ble_eq_true rfl⟩ (fun rv_2 _ H locs hp hG => ?_)
  subst rv_2
  refine lv_istore (lv' := [(7, .int 0), (6, .int 1), (0, .ref b), (1, .ref N0), (2, .ref (N0 + 164)), (3, .ref (N0 + 229)), (4, .ref (N0 + 230)), (5, .int 0)]) S.1 S.2.1 dL_law_1093 hl (by decide) rfl (fun ls hl => ?_)
  refine lv_aload_n S.1 S.2.1 dL_law_1095 rfl (lv_at hl 4 rfl) ?_
  refine fx_cVi (As := []) (rest := []) S hG (k25_X10_thrown (by omega) fu_s) fu_s rfl (cwV 0 S.2.2.2.2 gL_law_X10_thrown rfl rfl rfl (by decide +kernel) ⟨Nat.le_of_ble_eq_true rfl, Nat.le_of_ble_eq_true rfl⟩) rfl hl.1 rfl (Nat.le_of_ble_eq_true rfl) dL_law_1096 ⟨Nat.le_of_ble_eq_true rfl, Nat.le_of_ble_eq_true rfl⟩ (fun rv_3 _ H locs hp hG => ?_)
  subst rv_3
  refine lv_iload S.1 S.2.1 dL_law_1099 (lv_at hl 1 rfl) ?_
  refine lv_icmp_eq (tgt := 1106) S.1 S.2.1 dL_law_1101 (by decide) (fun _ => ?_) (fun c => absurd (by decide) c)
  refine lv_iload S.1 S.2.1 dL_law_1106 (lv_at hl 1 rfl) ?_
  refine lv_if_ne (tgt := 1123) S.1 S.2.1 dL_law_1108 (by decide) (fun _ => ?_) (fun c => absurd c (by decide))
  refine lv_goto (tgt := 2650) S.1 S.2.1 dL_law_1123 (by decide) ?_
  refine lv_iinc (v := 5) (lv' := [(5, .int 5), (7, .int 0), (6, .int 1), (0, .ref b), (1, .ref N0), (2, .ref (N0 + 164)), (3, .ref (N0 + 229)), (4, .ref (N0 + 230))]) S.1 S.2.1 dL_law_2650 hl (k := 7) rfl (by decide) (by decide) rfl (fun ls hl => ?_)
  refine lv_goto (tgt := 28) S.1 S.2.1 dL_law_2653 (by decide) ?_
  refine lv_iload S.1 S.2.1 dL_law_28 (lv_at hl 0 rfl) ?_
  refine lv_aload_n S.1 S.2.1 dL_law_30 rfl (lv_at hl 3 rfl) ?_
  refine gx_slen (v := 5) S hG hX hbl rfl dL_law_31 ?_
  refine lv_iconst (v := 5) S.1 S.2.1 dL_law_32 (by decide) ?_
  refine lv_isub S.1 S.2.1 dL_law_33 ?_
  refine fx_topi (y := 0) (by decide) ?_
  refine lv_icmp_gt (tgt := 2656) S.1 S.2.1 dL_law_34 (by decide) (fun _ => ?_) (fun c => absurd (by decide) c)
  refine lv_iconst (v := 1) S.1 S.2.1 dL_law_2656 (by decide) ?_
  refine va_forget (fun q hq => by rw [hN]; exact hG.2.1.2.2 q hq) ?_
  refine W.widen (k := 600002) (n := 7302232) (by decide) (by decide) ?_
  exact lw_ret (d0 := s.drawn) (Drawn.sameBut.refl _ _) S.1 S.2.1 hr hlocks dL_law_2657
theorem case_13 {p : Program} {e : Env} {s : State} {m : MethodId} {below : List Frame} {meth : Method} {c : Code} {b : Nat} {xs : Nat → Int32} {H : Heap} {locs : List Loc} {ls : Array Slot} {n : Nat} {a1 a2 a3 a4 : Int32} (S : CallFix p m c cL_law 9 s #[.ref b] wsL_law "TreeDifferLaw") (hr : meth.sig.returnType = ret) (hlocks : meth.locks = false) (hst : l.stackTraces = false) (hX : va_X b 5 xs s s.heap) (hbl : b < s.heap.size ∧ b < N0) (hN : s.heap.size = N0) (hn : N0 + 231 ≤ n) (hx1 : xs 1 = a1) (hx2 : xs 2 = a2) (hx3 : xs 3 = a3) (hx4 : xs 4 = a4) (hL : ∀ (i : Nat) (q : Nat × va_E), (lneed N0 cI cC cL cD cII cTr cTm cIt cB ql)[i]? = some q → F (N0 + q.1) = some q.2) (hG : fG N0 D vwCl (fty cI cC cL cD cII cTr cTm cIt cB) (fen ql) s F n H locs) (hl : lv_has ls 9 [(0, .ref b), (1, .ref N0), (2, .ref (N0 + 164)), (3, .ref (N0 + 229)), (4, .ref (N0 + 230)), (5, .int 0)]) : W p l e { frames := 2048, cells := 600002, slots := 7302232, locals := 84000 } s m #[.ref b] below meth c H locs 231 4980 (lw_Z below #[.ref b] s) (F0 m 1058 ls []) := by
  have hn1 := pk_nc a1
  have hf1 := pk_fc a1
  have hv1 := pk_vc a1
  obtain ⟨g_c1_ge_0, g_c1_le_65535⟩ := fl_c0 a1
  generalize hc1 : (a1.toUInt32 % 65536).toInt32 = c1 at *
  have hn2 := pk_nc a2
  have hf2 := pk_fc a2
  have hv2 := pk_vc a2
  obtain ⟨g_c2_ge_0, g_c2_le_65535⟩ := fl_c0 a2
  generalize hc2 : (a2.toUInt32 % 65536).toInt32 = c2 at *
  have hn3 := pk_nc a3
  have hf3 := pk_fc a3
  have hv3 := pk_vc a3
  obtain ⟨g_c3_ge_0, g_c3_le_65535⟩ := fl_c0 a3
  generalize hc3 : (a3.toUInt32 % 65536).toInt32 = c3 at *
  have hn4 := pk_nc a4
  have hf4 := pk_fc a4
  have hv4 := pk_vc a4
  obtain ⟨g_c4_ge_0, g_c4_le_65535⟩ := fl_c0 a4
  generalize hc4 : (a4.toUInt32 % 65536).toInt32 = c4 at *
  rcases fl_cut a1 0 (-1) (by decide) with g_a1_le_m1 | g_a1_ge_0
  · skip
    exact l13_0 g_a1_le_m1 S hr hlocks hst hX hbl hN hn hx1 hx2 hx3 hx4 (hL 0 _ rfl) (hL 4 _ rfl) hG hl
  · skip
    rcases fl_cut a1 3 2 (by decide) with g_a1_le_2 | g_a1_ge_3
    · skip
      rcases fl_cut a1 1 0 (by decide) with g_a1_le_0 | g_a1_ge_1
      · skip
        obtain rfl : a1 = 0 := Int32.le_antisymm g_a1_le_0 g_a1_ge_0
        rcases fl_cut a2 0 (-1) (by decide) with g_a2_le_m1 | g_a2_ge_0
        · skip
          exact l13_1 g_a2_le_m1 S hr hlocks hst hX hbl hN hn hx1 hx2 hx3 hx4 (hL 0 _ rfl) (hL 6 _ rfl) (hL 10 _ rfl) (hL 4 _ rfl) (hL 11 _ rfl) (hL 12 _ rfl) hG hl
        · skip
          rcases fl_cut a2 1 0 (by decide) with g_a2_le_0 | g_a2_ge_1
          · skip
            obtain rfl : a2 = 0 := Int32.le_antisymm g_a2_le_0 g_a2_ge_0
            exact l13_2 S hr hlocks hst hX hbl hN hn hx1 hx2 hx3 hx4 (hL 0 _ rfl) (hL 6 _ rfl) (hL 10 _ rfl) (hL 13 _ rfl) (hL 3 _ rfl) (hL 4 _ rfl) (hL 11 _ rfl) (hL 12 _ rfl) (hL 18 _ rfl) hG hl
          · skip
            exact l13_3 g_a2_ge_1 S hr hlocks hst hX hbl hN hn hx1 hx2 hx3 hx4 (hL 0 _ rfl) (hL 6 _ rfl) (hL 10 _ rfl) (hL 4 _ rfl) (hL 11 _ rfl) (hL 12 _ rfl) hG hl
      · skip
        rcases fl_cut a1 2 1 (by decide) with g_a1_le_1 | g_a1_ge_2
        · skip
          obtain rfl : a1 = 1 := Int32.le_antisymm g_a1_le_1 g_a1_ge_1
          rcases fl_cut a2 0 (-1) (by decide) with g_a2_le_m1 | g_a2_ge_0
          · skip
            exact l13_4 g_a2_le_m1 S hr hlocks hst hX hbl hN hn hx1 hx2 hx3 hx4 (hL 0 _ rfl) (hL 6 _ rfl) (hL 22 _ rfl) (hL 4 _ rfl) (hL 11 _ rfl) (hL 23 _ rfl) hG hl
          · skip
            rcases fl_cut a2 1 0 (by decide) with g_a2_le_0 | g_a2_ge_1
            · skip
              obtain rfl : a2 = 0 := Int32.le_antisymm g_a2_le_0 g_a2_ge_0
              exact l13_5 S hr hlocks hst hX hbl hN hn hx1 hx2 hx3 hx4 (hL 0 _ rfl) (hL 6 _ rfl) (hL 22 _ rfl) (hL 24 _ rfl) (hL 3 _ rfl) (hL 4 _ rfl) (hL 11 _ rfl) (hL 23 _ rfl) (hL 29 _ rfl) hG hl
            · skip
              exact l13_6 g_a2_ge_1 S hr hlocks hst hX hbl hN hn hx1 hx2 hx3 hx4 (hL 0 _ rfl) (hL 6 _ rfl) (hL 22 _ rfl) (hL 4 _ rfl) (hL 11 _ rfl) (hL 23 _ rfl) hG hl
        · skip
          obtain rfl : a1 = 2 := Int32.le_antisymm g_a1_le_2 g_a1_ge_2
          rcases fl_cut a2 0 (-1) (by decide) with g_a2_le_m1 | g_a2_ge_0
          · skip
            exact l13_7 g_a2_le_m1 S hr hlocks hst hX hbl hN hn hx1 hx2 hx3 hx4 (hL 0 _ rfl) (hL 6 _ rfl) (hL 33 _ rfl) (hL 4 _ rfl) (hL 11 _ rfl) (hL 34 _ rfl) hG hl
          · skip
            rcases fl_cut a2 1 0 (by decide) with g_a2_le_0 | g_a2_ge_1
            · skip
              obtain rfl : a2 = 0 := Int32.le_antisymm g_a2_le_0 g_a2_ge_0
              exact l13_8 S hr hlocks hst hX hbl hN hn hx1 hx2 hx3 hx4 (hL 0 _ rfl) (hL 6 _ rfl) (hL 33 _ rfl) (hL 35 _ rfl) (hL 3 _ rfl) (hL 4 _ rfl) (hL 11 _ rfl) (hL 34 _ rfl) (hL 40 _ rfl) hG hl
            · skip
              exact l13_9 g_a2_ge_1 S hr hlocks hst hX hbl hN hn hx1 hx2 hx3 hx4 (hL 0 _ rfl) (hL 6 _ rfl) (hL 33 _ rfl) (hL 4 _ rfl) (hL 11 _ rfl) (hL 34 _ rfl) hG hl
    · skip
      exact l13_10 g_a1_ge_3 S hr hlocks hst hX hbl hN hn hx1 hx2 hx3 hx4 (hL 0 _ rfl) (hL 4 _ rfl) hG hl
