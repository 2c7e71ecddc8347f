theorem dX7_size_0 : decode cX7_size 0 = .ok (.aload_n 0, 1) := by decide +kernel
theorem dX7_size_1 : decode cX7_size 1 = .ok (.iload_n 1, 1) := by decide +kernel
set_option maxRecDepth 20000 in
theorem ggX7_size_X7_treeAt : GoodIn wsX7_size wsX7_treeAt := goodIn_ca (goodIn_r _ [6, 7, 8, 9, 17, 18, 19, 20, 21, 22, 23, 24, 25, 26] (by decide +kernel) (by decide +kernel)) (goodIn_sub (fun _ h => List.mem_cons_of_mem _ (List.mem_append_right _ h)) (by decide +kernel))
set_option maxRecDepth 20000 in
theorem gX7_size_X7_treeAt : GoodIn wsX7_size (wsV RX7 83 RX7 yX7_treeAt wsX7_treeAt) := goodIn_app (goodIn_of _ (by decide +kernel)) ggX7_size_X7_treeAt
theorem dX7_size_2 : decode cX7_size 2 = .ok (.invokevirtual 83, 3) := by decide +kernel
theorem dL_size_0 : decode cL_size 0 = .ok (.aload_n 2, 1) := by decide +kernel
theorem dL_size_1 : decode cL_size 1 = .ok (.iconst 0, 1) := by decide +kernel
theorem dL_size_2 : decode cL_size 2 = .ok (.aload_n 0, 1) := by decide +kernel
theorem dL_size_3 : decode cL_size 3 = .ok (.iload_n 1, 1) := by decide +kernel
set_option maxRecDepth 20000 in
theorem ggL_size_X7_size : GoodIn wsL_size wsX7_size := goodIn_ca (goodIn_r _ [6, 7, 8, 9, 10, 5, 11, 12, 13, 14, 15, 16, 17, 18, 19, 20, 21, 22, 23, 24, 25, 26, 27, 28, 29, 30, 31] (by decide +kernel) (by decide +kernel)) (goodIn_sub (fun _ h => List.mem_cons_of_mem _ (List.mem_append_right _ h)) (by decide +kernel))
set_option maxRecDepth 20000 in
theorem gL_size_X7_size : GoodIn wsL_size (wsV RL 63 RX7 yX7_size wsX7_size) := goodIn_app (goodIn_of _ (by decide +kernel)) ggL_size_X7_size
theorem dL_size_4 : decode cL_size 4 = .ok (.invokevirtual 63, 3) := by decide +kernel
theorem dL_size_12 : decode cL_size 12 = .ok (.astore_n 3, 1) := by decide +kernel
theorem dL_size_13 : decode cL_size 13 = .ok (.iconst 1, 1) := by decide +kernel
theorem dL_size_14 : decode cL_size 14 = .ok (.ireturn, 1) := by decide +kernel
theorem dX10_size_0 : decode cX10_size 0 = .ok (.aload_n 0, 1) := by decide +kernel
theorem dX10_size_1 : decode cX10_size 1 = .ok (.iload_n 1, 1) := by decide +kernel
theorem dX10_size_2 : decode cX10_size 2 = .ok (.iload_n 1, 1) := by decide +kernel
set_option maxRecDepth 20000 in
theorem ggX10_size_X10_areNone : GoodIn wsX10_size wsX10_areNone := goodIn_r _ [6, 7, 8, 9, 5, 10, 11, 12, 13, 14, 15, 16, 17, 18, 19, 20, 21, 22, 23, 24, 25, 26, 27, 28, 29, 30, 31, 32, 33, 34, 35, 36, 37, 38, 39, 40, 41, 42, 43, 44] (by decide +kernel) (by decide +kernel)
set_option maxRecDepth 20000 in
theorem gX10_size_X10_areNone : GoodIn wsX10_size (wsV RX10 217 RX10 yX10_areNone wsX10_areNone) := goodIn_app (goodIn_of _ (by decide +kernel)) ggX10_size_X10_areNone
theorem dX10_size_3 : decode cX10_size 3 = .ok (.invokevirtual 217, 3) := by decide +kernel
theorem dX10_size_6 : decode cX10_size 6 = .ok (.ifCond .eq 7, 3) := by decide +kernel
theorem dX10_size_9 : decode cX10_size 9 = .ok (.iconst 0, 1) := by decide +kernel
theorem dX10_size_10 : decode cX10_size 10 = .ok (.goto 12, 3) := by decide +kernel
theorem dX10_size_22 : decode cX10_size 22 = .ok (.ireturn, 1) := by decide +kernel
theorem dX7_size_5 : decode cX7_size 5 = .ok (.getfield 107, 3) := by decide +kernel
theorem dX7_size_8 : decode cX7_size 8 = .ok (.ireturn, 1) := by decide +kernel
theorem dL_size_7 : decode cL_size 7 = .ok (.i2l, 1) := by decide +kernel
theorem dL_size_8 : decode cL_size 8 = .ok (.lastore, 1) := by decide +kernel
theorem dL_size_9 : decode cL_size 9 = .ok (.goto 6, 3) := by decide +kernel
theorem dL_size_15 : decode cL_size 15 = .ok (.iconst 0, 1) := by decide +kernel
theorem dL_size_16 : decode cL_size 16 = .ok (.ireturn, 1) := by decide +kernel
theorem dX10_size_13 : decode cX10_size 13 = .ok (.aload_n 0, 1) := by decide +kernel
theorem dX10_size_14 : decode cX10_size 14 = .ok (.getfield 27, 3) := by decide +kernel
theorem dX10_size_17 : decode cX10_size 17 = .ok (.iload_n 1, 1) := by decide +kernel
theorem dX10_size_18 : decode cX10_size 18 = .ok (.aaload, 1) := by decide +kernel
theorem dX10_size_19 : decode cX10_size 19 = .ok (.getfield 116, 3) := by decide +kernel
theorem dL_law_1002 : decode cL_law 1002 = .ok (.aload_n 1, 1) := by decide +kernel
theorem dL_law_1003 : decode cL_law 1003 = .ok (.aload_n 0, 1) := by decide +kernel
theorem dL_law_1004 : decode cL_law 1004 = .ok (.iload 5, 2) := by decide +kernel
theorem dL_law_1006 : decode cL_law 1006 = .ok (.iconst 1, 1) := by decide +kernel
theorem dL_law_1007 : decode cL_law 1007 = .ok (.iadd, 1) := by decide +kernel
theorem dL_law_1008 : decode cL_law 1008 = .ok (.iaload, 1) := by decide +kernel
theorem dL_law_1009 : decode cL_law 1009 = .ok (.aload_n 3, 1) := by decide +kernel
set_option maxRecDepth 20000 in
theorem ggL_law_L_size : GoodIn wsL_law wsL_size := goodIn_ca (goodIn_r _ [779, 185, 780, 781, 782, 2, 783, 195, 196, 197, 198, 199, 200, 201, 15, 1530, 1531, 1532, 1533, 1534, 1535, 1536, 1458, 1459, 1460, 1461, 1462, 1463, 1464, 1465, 1466, 1467] (by decide +kernel) (by decide +kernel)) (goodIn_sub (fun _ h => List.mem_append_left _ (List.mem_append_left _ (List.mem_append_right _ h))) (by decide +kernel))
set_option maxRecDepth 20000 in
theorem gL_law_L_size : GoodIn wsL_law (va_wsS RL 198 yL_size wsL_size) := goodIn_app (goodIn_of _ (by decide +kernel)) ggL_law_L_size
theorem dL_law_1010 : decode cL_law 1010 = .ok (.invokestatic 198, 3) := by decide +kernel
theorem dL_law_1013 : decode cL_law 1013 = .ok (.istore 6, 2) := by decide +kernel
theorem dL_law_1015 : decode cL_law 1015 = .ok (.aload_n 2, 1) := by decide +kernel
theorem dL_law_1016 : decode cL_law 1016 = .ok (.aload_n 0, 1) := by decide +kernel
theorem dL_law_1017 : decode cL_law 1017 = .ok (.iload 5, 2) := by decide +kernel
theorem dL_law_1019 : decode cL_law 1019 = .ok (.iconst 1, 1) := by decide +kernel
theorem dL_law_1020 : decode cL_law 1020 = .ok (.iadd, 1) := by decide +kernel
theorem dL_law_1021 : decode cL_law 1021 = .ok (.iaload, 1) := by decide +kernel
set_option maxRecDepth 20000 in
theorem ggL_law_X10_size : GoodIn wsL_law wsX10_size := goodIn_r _ [787, 114, 773, 774, 775, 5, 776, 172, 259, 260, 261, 262, 263, 264, 1468, 1469, 1470, 1471, 1472, 1473, 1474, 1475, 1476, 1477, 1478, 1479, 1480, 1481, 1482, 1483, 1484, 1485, 1486, 1487, 1488, 1489, 1490, 1491, 1492, 1493, 1494, 1495, 1496, 1497, 1498, 1537, 1538, 1539, 1540, 1541] (by decide +kernel) (by decide +kernel)
set_option maxRecDepth 20000 in
theorem gL_law_X10_size : GoodIn wsL_law (wsV RL 200 RX10 yX10_size wsX10_size) := goodIn_app (goodIn_of _ (by decide +kernel)) ggL_law_X10_size
theorem dL_law_1022 : decode cL_law 1022 = .ok (.invokevirtual 200, 3) := by decide +kernel
theorem dL_law_1025 : decode cL_law 1025 = .ok (.istore 7, 2) := by decide +kernel
theorem dL_law_1027 : decode cL_law 1027 = .ok (.aload_n 2, 1) := by decide +kernel
theorem dL_law_1028 : decode cL_law 1028 = .ok (.invokevirtual 156, 3) := by decide +kernel
theorem dL_law_1031 : decode cL_law 1031 = .ok (.iload 6, 2) := by decide +kernel
theorem dL_law_1033 : decode cL_law 1033 = .ok (.if_icmp .eq 5, 3) := by decide +kernel
theorem dL_law_1038 : decode cL_law 1038 = .ok (.iload 6, 2) := by decide +kernel
theorem dL_law_1040 : decode cL_law 1040 = .ok (.ifCond .ne 15, 3) := by decide +kernel
theorem dL_law_1055 : decode cL_law 1055 = .ok (.goto 1595, 3) := by decide +kernel
theorem dL_law_1043 : decode cL_law 1043 = .ok (.aload_n 3, 1) := by decide +kernel
theorem dL_law_1044 : decode cL_law 1044 = .ok (.iconst 0, 1) := by decide +kernel
theorem dL_law_1045 : decode cL_law 1045 = .ok (.laload, 1) := by decide +kernel
theorem dL_law_1046 : decode cL_law 1046 = .ok (.iload 7, 2) := by decide +kernel
theorem dL_law_1048 : decode cL_law 1048 = .ok (.i2l, 1) := by decide +kernel
theorem dL_law_1049 : decode cL_law 1049 = .ok (.lcmp, 1) := by decide +kernel
theorem dL_law_1050 : decode cL_law 1050 = .ok (.ifCond .eq 5, 3) := by decide +kernel
variable {l : Launch} {N0 : Nat} {D : va_G} {cI cC cL cD cII cTr cTm cIt cB : ClassId} {F : Nat → Option va_E} {ql : Nat → Nat}
theorem k541_X7_size {n : Nat} {a1 : Int32} (g_a1_le_m1 : a1 ≤ (-1)) (hst : l.stackTraces = false) (hn : N0 + 231 ≤ n) (h0 : F N0 = some (.inr (9, [.ref (N0 + 1), .ref (N0 + 2), .ref (N0 + 11), .ref (N0 + 13), .ref (N0 + 63), .ref (N0 + 65), .ref (N0 + 85), .int (-1), .int (-1), .int 32]))) : vx_Met l yX7_size wsX7_size ({ frames := 7, cells := 1, slots := 6, locals := 103 }) (va_Pc [.ref N0, .int a1] (fP N0 D vwCl (fty cI cC cL cD cII cTr cTm cIt cB) (fen ql) F n)) (fNo N0 D vwCl (fty cI cC cL cD cII cTr cTm cIt cB) F n) (fXC N0 D vwCl (fty cI cC cL cD cII cTr cTm cIt cB) "java/lang/IndexOutOfBoundsException" F n) 1 6 (fA N0) := by
  refine fx_startX 2 rfl rfl (Nat.le_of_ble_eq_true rfl) ?_ rfl
  intro p e s m below meth c ls S htab hlocks hG hl
  have hl : lv_has ls 2 [(0, .ref N0), (1, .int a1)] := hl
  have lt_h0 := hG.1.lt h0
  refine lv_aload_n S.1 S.2.1 dX7_size_0 rfl (lv_at hl 0 rfl) ?_
  refine lv_iload_n S.1 S.2.1 dX7_size_1 rfl (lv_at hl 1 rfl) ?_
  refine fx_xV (As := [.int a1]) (rest := []) S hG (k18_X7_treeAt g_a1_le_m1 hst (by omega)) h0 rfl (cwV 1 S.2.2.2.2 gX7_size_X7_treeAt rfl rfl rfl (by decide +kernel) ⟨Nat.le_of_ble_eq_true rfl, Nat.le_of_ble_eq_true rfl⟩) rfl hl.1 rfl (Nat.le_of_ble_eq_true rfl) dX7_size_2 ⟨Nat.le_of_ble_eq_true rfl, Nat.le_of_ble_eq_true rfl⟩ (fun ceq_1 q_1 H locs n_2 hn_2 hG h1q_1 h2q_1 h3q_1 => ?_)
  exact fx_out htab hlocks hG (by omega) h1q_1 h2q_1 h3q_1 (by decide) (by decide)
theorem k542_L_size {n : Nat} {a1 : Int32} (g_a1_le_m1 : a1 ≤ (-1)) (hst : l.stackTraces = false) (hn : N0 + 231 ≤ n) (h0 : F N0 = some (.inr (9, [.ref (N0 + 1), .ref (N0 + 2), .ref (N0 + 11), .ref (N0 + 13), .ref (N0 + 63), .ref (N0 + 65), .ref (N0 + 85), .int (-1), .int (-1), .int 32]))) : Met l yL_size wsL_size ({ frames := 8, cells := 1, slots := 6, locals := 124 }) (va_Pc [.ref N0, .int a1, .ref (N0 + 229)] (fP N0 D vwCl (fty cI cC cL cD cII cTr cTm cIt cB) (fen ql) F n)) (fQi N0 D vwCl (fty cI cC cL cD cII cTr cTm cIt cB) (fun (r : Int32) (u : Nat) => r = 1 ∧ n ≤ u) (fun _ => F) (fun u => u)) 1 6 (fA N0) := by
  refine fx_startW (hh := [(0, 9, 12, 19)]) 4 rfl rfl (Nat.le_of_ble_eq_true rfl) ?_ rfl
  intro p e s m below meth c ls S htab hr hlocks hG hl
  have hl : lv_has ls 4 [(0, .ref N0), (1, .int a1), (2, .ref (N0 + 229))] := hl
  have lt_h0 := hG.1.lt h0
  refine lv_aload_n S.1 S.2.1 dL_size_0 rfl (lv_at hl 2 rfl) ?_
  refine lv_iconst (v := 0) S.1 S.2.1 dL_size_1 (by decide) ?_
  refine lv_aload_n S.1 S.2.1 dL_size_2 rfl (lv_at hl 0 rfl) ?_
  refine lv_iload_n S.1 S.2.1 dL_size_3 rfl (lv_at hl 1 rfl) ?_
  refine fx_xV (As := [.int a1]) (rest := [.int 0, .ref (N0 + 229)]) S hG (k541_X7_size g_a1_le_m1 hst (by omega) h0) h0 rfl (cwV 1 S.2.2.2.2 gL_size_X7_size rfl rfl rfl (by decide +kernel) ⟨Nat.le_of_ble_eq_true rfl, Nat.le_of_ble_eq_true rfl⟩) rfl hl.1 rfl (Nat.le_of_ble_eq_true rfl) dL_size_4 ⟨Nat.le_of_ble_eq_true rfl, Nat.le_of_ble_eq_true rfl⟩ (fun ceq_1 q_1 H locs n_2 hn_2 hG h1q_1 h2q_1 h3q_1 => ?_)
  refine fx_catch (hh := [(0, 9, 12, 19)]) S htab hG h1q_1 h2q_1 h3q_1 [] ⟨0, 9, 12, 19⟩ [] rfl [] (fun z hz => absurd hz List.not_mem_nil) (by decide) (by decide) (by decide +kernel) (List.mem_of_getElem? (i := 2) rfl) ?_
  refine lv_astore_n (lv' := [(3, .ref q_1), (0, .ref N0), (1, .int a1), (2, .ref (N0 + 229))]) S.1 S.2.1 dL_size_12 rfl hl (by decide) rfl (fun ls hl => ?_)
  refine lv_iconst (v := 1) S.1 S.2.1 dL_size_13 (by decide) ?_
  exact fx_iret S hr hlocks n_2 hG (⟨rfl, hn_2⟩) dL_size_14
theorem k543_X10_areNone {n : Nat} {a1 : Int32} (g_a1_le_m1 : a1 ≤ (-1)) (hn : N0 + 231 ≤ n) (h0 : F (N0 + 164) = some (.inr (12, [.ref (N0 + 165), .int 0, .ref (N0 + 181), .int 0, .int 0, .int 0, .int (-1), .ref (ql 24), .ref (N0 + 182), .ref (N0 + 187), .ref (N0 + 208), .ref (N0 + 209), .ref (N0 + 210), .ref (N0 + 211), .ref (N0 + 212), .int 0, .ref (N0 + 213), .ref (N0 + 218), .ref (N0 + 223), .ref (N0 + 224), .ref (N0 + 225), .ref (N0 + 226), .ref (N0 + 227), .int 0, .int 0, .ref (N0 + 228), .null, .int (-1), .int 0, .int 0, .int 0]))) : Met l yX10_areNone wsX10_areNone ({ frames := 2, cells := 0, slots := 0, locals := 42 }) (va_Pc [.ref (N0 + 164), .int a1, .int a1] (fP N0 D vwCl (fty cI cC cL cD cII cTr cTm cIt cB) (fen ql) F n)) (fQi N0 D vwCl (fty cI cC cL cD cII cTr cTm cIt cB) (fun (r : Int32) (_ : Unit) => r = 1) (fun _ => (fu F (N0 + 164) (.inr (12, [.ref (N0 + 165), .int 1, .ref (N0 + 181), .int 0, .int 0, .int 0, .int (-1), .ref (ql 24), .ref (N0 + 182), .ref (N0 + 187), .ref (N0 + 208), .ref (N0 + 209), .ref (N0 + 210), .ref (N0 + 211), .ref (N0 + 212), .int 0, .ref (N0 + 213), .ref (N0 + 218), .ref (N0 + 223), .ref (N0 + 224), .ref (N0 + 225), .ref (N0 + 226), .ref (N0 + 227), .int 0, .int 0, .ref (N0 + 228), .null, .int (-1), .int 0, .int 0, .int 0])))) (fun _ => n)) 0 0 (fA N0) := by
  refine fx_start 3 rfl rfl (Nat.le_of_ble_eq_true rfl) ?_ rfl
  intro p e s m below meth c ls S hr hlocks hin hG hl
  have hl : lv_has ls 3 [(0, .ref (N0 + 164)), (1, .int a1), (2, .int a1)] := hl
  have lt_h0 := hG.1.lt h0
  refine lv_aload_n S.1 S.2.1 dX10_areNone_0 rfl (lv_at hl 0 rfl) ?_
  refine lv_iload_n S.1 S.2.1 dX10_areNone_1 rfl (lv_at hl 1 rfl) ?_
  refine fx_cSi (As := [.int a1]) (rest := [.ref (N0 + 164)]) S hG (k22_X10_isTree g_a1_le_m1 (by omega)) (cwS 1 S.2.2.2.2 gX10_areNone_X10_isTree rfl rfl rfl (by decide +kernel) ⟨Nat.le_of_ble_eq_true rfl, Nat.le_of_ble_eq_true rfl⟩) rfl hl.1 rfl (Nat.le_of_ble_eq_true rfl) dX10_areNone_2 ⟨Nat.le_of_ble_eq_true rfl, Nat.le_of_ble_eq_true rfl⟩ (fun rv_1 _ H locs hp hG => ?_)
  subst rv_1
  refine lv_if_eq (tgt := 19) S.1 S.2.1 dX10_areNone_5 (by decide) (fun _ => ?_) (fun c => absurd (by decide) c)
  refine lv_iconst (v := 1) S.1 S.2.1 dX10_areNone_19 (by decide) ?_
  refine gx_put (C := RX10) (T := TX10) (N := 31) (ty := .int) (v := .int 1) (fs' := [.ref (N0 + 165), .int 1, .ref (N0 + 181), .int 0, .int 0, .int 0, .int (-1), .ref (ql 24), .ref (N0 + 182), .ref (N0 + 187), .ref (N0 + 208), .ref (N0 + 209), .ref (N0 + 210), .ref (N0 + 211), .ref (N0 + 212), .int 0, .ref (N0 + 213), .ref (N0 + 218), .ref (N0 + 223), .ref (N0 + 224), .ref (N0 + 225), .ref (N0 + 226), .ref (N0 + 227), .int 0, .int 0, .ref (N0 + 228), .null, .int (-1), .int 0, .int 0, .int 0]) S hG h0 i_X10_areNone_X10 rfl 1 (by decide) tyX10 tyX10_ok nmX10 (by decide +kernel) rfl (by decide +kernel) rfl rfl (Nat.le_of_ble_eq_true rfl) rfl dX10_areNone_20 (fun H locs hG => ?_)
  refine lv_aload_n S.1 S.2.1 dX10_areNone_23 rfl (lv_at hl 0 rfl) ?_
  refine gx_get (C := RX10) (T := TX10) (N := 31) S hG fu_s i_X10_areNone_X10 rfl 1 (by decide) (by decide +kernel) rfl dX10_areNone_24 ?_
  refine lv_if_le (tgt := 34) S.1 S.2.1 dX10_areNone_27 (by decide) (fun c => absurd c (by decide)) (fun _ => ?_)
  refine lv_iconst (v := 1) S.1 S.2.1 dX10_areNone_30 (by decide) ?_
  refine lv_goto (tgt := 35) S.1 S.2.1 dX10_areNone_31 (by decide) ?_
  exact fx_zret S hr (rfl) hlocks () hG (rfl) dX10_areNone_35
theorem k544_X10_size {n : Nat} {a1 : Int32} (g_a1_le_m1 : a1 ≤ (-1)) (hn : N0 + 231 ≤ n) (h0 : F (N0 + 164) = some (.inr (12, [.ref (N0 + 165), .int 0, .ref (N0 + 181), .int 0, .int 0, .int 0, .int (-1), .ref (ql 24), .ref (N0 + 182), .ref (N0 + 187), .ref (N0 + 208), .ref (N0 + 209), .ref (N0 + 210), .ref (N0 + 211), .ref (N0 + 212), .int 0, .ref (N0 + 213), .ref (N0 + 218), .ref (N0 + 223), .ref (N0 + 224), .ref (N0 + 225), .ref (N0 + 226), .ref (N0 + 227), .int 0, .int 0, .ref (N0 + 228), .null, .int (-1), .int 0, .int 0, .int 0]))) : Met l yX10_size wsX10_size ({ frames := 3, cells := 0, slots := 0, locals := 64 }) (va_Pc [.ref (N0 + 164), .int a1] (fP N0 D vwCl (fty cI cC cL cD cII cTr cTm cIt cB) (fen ql) F n)) (fQi N0 D vwCl (fty cI cC cL cD cII cTr cTm cIt cB) (fun (r : Int32) (_ : Unit) => r = 0) (fun _ => (fu F (N0 + 164) (.inr (12, [.ref (N0 + 165), .int 1, .ref (N0 + 181), .int 0, .int 0, .int 0, .int (-1), .ref (ql 24), .ref (N0 + 182), .ref (N0 + 187), .ref (N0 + 208), .ref (N0 + 209), .ref (N0 + 210), .ref (N0 + 211), .ref (N0 + 212), .int 0, .ref (N0 + 213), .ref (N0 + 218), .ref (N0 + 223), .ref (N0 + 224), .ref (N0 + 225), .ref (N0 + 226), .ref (N0 + 227), .int 0, .int 0, .ref (N0 + 228), .null, .int (-1), .int 0, .int 0, .int 0])))) (fun _ => n)) 0 0 (fA N0) := by
  refine fx_start 2 rfl rfl (Nat.le_of_ble_eq_true rfl) ?_ rfl
  intro p e s m below meth c ls S hr hlocks hin hG hl
  have hl : lv_has ls 2 [(0, .ref (N0 + 164)), (1, .int a1)] := hl
  have lt_h0 := hG.1.lt h0
  refine lv_aload_n S.1 S.2.1 dX10_size_0 rfl (lv_at hl 0 rfl) ?_
  refine lv_iload_n S.1 S.2.1 dX10_size_1 rfl (lv_at hl 1 rfl) ?_
  refine lv_iload_n S.1 S.2.1 dX10_size_2 rfl (lv_at hl 1 rfl) ?_
  refine fx_cVi (As := [.int a1, .int a1]) (rest := []) S hG (k543_X10_areNone g_a1_le_m1 (by omega) h0) h0 rfl (cwV 2 S.2.2.2.2 gX10_size_X10_areNone rfl rfl rfl (by decide +kernel) ⟨Nat.le_of_ble_eq_true rfl, Nat.le_of_ble_eq_true rfl⟩) rfl hl.1 rfl (Nat.le_of_ble_eq_true rfl) dX10_size_3 ⟨Nat.le_of_ble_eq_true rfl, Nat.le_of_ble_eq_true rfl⟩ (fun rv_1 _ H locs hp hG => ?_)
  subst rv_1
  refine lv_if_eq (tgt := 13) S.1 S.2.1 dX10_size_6 (by decide) (fun c => absurd c (by decide)) (fun _ => ?_)
  refine lv_iconst (v := 0) S.1 S.2.1 dX10_size_9 (by decide) ?_
  refine lv_goto (tgt := 22) S.1 S.2.1 dX10_size_10 (by decide) ?_
  exact fx_iret S hr hlocks () hG (rfl) dX10_size_22
theorem i_X7_size_X5 : ∀ w ∈ u_ws RX5 TX5 7, w ∈ wsX7_size := by decide +kernel
theorem k545_X7_size {n : Nat} (hn : N0 + 231 ≤ n) (h0 : F N0 = some (.inr (9, [.ref (N0 + 1), .ref (N0 + 2), .ref (N0 + 11), .ref (N0 + 13), .ref (N0 + 63), .ref (N0 + 65), .ref (N0 + 85), .int (-1), .int (-1), .int 32]))) (h1 : F (N0 + 1) = some (.inl (cTr, 3, .inr (.inr (.inr (.inr (va_up (va_up (va_up (fun _ => none) 0 (some (N0 + 143))) 1 (some (N0 + 150))) 2 (some (N0 + 157))))))))) (h2 : F (N0 + 143) = some (.inr (7, [.ref (N0 + 144), .ref (N0 + 145), .ref (N0 + 146), .ref (N0 + 147), .ref (N0 + 148), .ref (N0 + 149), .int 1]))) : Met l yX7_size wsX7_size ({ frames := 1, cells := 0, slots := 0, locals := 21 }) (va_Pc [.ref N0, .int 0] (fP N0 D vwCl (fty cI cC cL cD cII cTr cTm cIt cB) (fen ql) F n)) (fQi N0 D vwCl (fty cI cC cL cD cII cTr cTm cIt cB) (fun (r : Int32) (_ : Unit) => r = 1) (fun _ => F) (fun _ => n)) 0 0 (fA N0) := by
  refine fx_start 2 rfl rfl (Nat.le_of_ble_eq_true rfl) ?_ rfl
  intro p e s m below meth c ls S hr hlocks hin hG hl
  have hl : lv_has ls 2 [(0, .ref N0), (1, .int 0)] := hl
  have lt_h0 := hG.1.lt h0
  have lt_h1 := hG.1.lt h1
  have lt_h2 := hG.1.lt h2
  refine lv_aload_n S.1 S.2.1 dX7_size_0 rfl (lv_at hl 0 rfl) ?_
  refine lv_iload_n S.1 S.2.1 dX7_size_1 rfl (lv_at hl 1 rfl) ?_
  refine fx_cVr (As := [.int 0]) (rest := []) S hG (k26_X7_treeAt (by omega) h0 h1) h0 rfl (cwV 1 S.2.2.2.2 gX7_size_X7_treeAt rfl rfl rfl (by decide +kernel) ⟨Nat.le_of_ble_eq_true rfl, Nat.le_of_ble_eq_true rfl⟩) rfl hl.1 rfl (Nat.le_of_ble_eq_true rfl) dX7_size_2 ⟨Nat.le_of_ble_eq_true rfl, Nat.le_of_ble_eq_true rfl⟩ (fun rv_1 _ H locs hp hG => ?_)
  subst rv_1
  refine gx_get (C := RX5) (T := TX5) (N := 7) S hG h2 i_X7_size_X5 rfl 6 (by decide) (by decide +kernel) rfl dX7_size_5 ?_
  exact fx_iret S hr hlocks () hG (rfl) dX7_size_8
theorem k546_L_size {n : Nat} (hn : N0 + 231 ≤ n) (h0 : F N0 = some (.inr (9, [.ref (N0 + 1), .ref (N0 + 2), .ref (N0 + 11), .ref (N0 + 13), .ref (N0 + 63), .ref (N0 + 65), .ref (N0 + 85), .int (-1), .int (-1), .int 32]))) (h1 : F (N0 + 1) = some (.inl (cTr, 3, .inr (.inr (.inr (.inr (va_up (va_up (va_up (fun _ => none) 0 (some (N0 + 143))) 1 (some (N0 + 150))) 2 (some (N0 + 157))))))))) (h2 : F (N0 + 143) = some (.inr (7, [.ref (N0 + 144), .ref (N0 + 145), .ref (N0 + 146), .ref (N0 + 147), .ref (N0 + 148), .ref (N0 + 149), .int 1]))) (h3 : F (N0 + 229) = some (.inl (cL, 1, .inr (.inl (fun _ => 0))))) : Met l yL_size wsL_size ({ frames := 2, cells := 0, slots := 0, locals := 42 }) (va_Pc [.ref N0, .int 0, .ref (N0 + 229)] (fP N0 D vwCl (fty cI cC cL cD cII cTr cTm cIt cB) (fen ql) F n)) (fQi N0 D vwCl (fty cI cC cL cD cII cTr cTm cIt cB) (fun (r : Int32) (_ : Unit) => r = 0) (fun _ => (fu F (N0 + 229) (.inl (cL, 1, .inr (.inl (vp_updL (fun _ => 0) 0 1)))))) (fun _ => n)) 0 0 (fA N0) := by
  refine fx_startW (hh := [(0, 9, 12, 19)]) 4 rfl rfl (Nat.le_of_ble_eq_true rfl) ?_ rfl
  intro p e s m below meth c ls S htab hr hlocks hG hl
  have hl : lv_has ls 4 [(0, .ref N0), (1, .int 0), (2, .ref (N0 + 229))] := hl
  have lt_h0 := hG.1.lt h0
  have lt_h1 := hG.1.lt h1
  have lt_h2 := hG.1.lt h2
  have lt_h3 := hG.1.lt h3
  refine lv_aload_n S.1 S.2.1 dL_size_0 rfl (lv_at hl 2 rfl) ?_
  refine lv_iconst (v := 0) S.1 S.2.1 dL_size_1 (by decide) ?_
  refine lv_aload_n S.1 S.2.1 dL_size_2 rfl (lv_at hl 0 rfl) ?_
  refine lv_iload_n S.1 S.2.1 dL_size_3 rfl (lv_at hl 1 rfl) ?_
  refine fx_cVi (As := [.int 0]) (rest := [.int 0, .ref (N0 + 229)]) S hG (k545_X7_size (by omega) h0 h1 h2) h0 rfl (cwV 1 S.2.2.2.2 gL_size_X7_size rfl rfl rfl (by decide +kernel) ⟨Nat.le_of_ble_eq_true rfl, Nat.le_of_ble_eq_true rfl⟩) rfl hl.1 rfl (Nat.le_of_ble_eq_true rfl) dL_size_4 ⟨Nat.le_of_ble_eq_true rfl, Nat.le_of_ble_eq_true rfl⟩ (fun rv_1 _ H locs hp hG => ?_)
  subst rv_1
  refine lv_i2l (v := 1) S.1 S.2.1 dL_size_7 (by decide) ?_
  refine gx_last (f' := vp_updL (fun _ => 0) 0 1) S hG 2 h3 rfl (fin_l (by decide)) dL_size_8 rfl (fun H locs hG => ?_)
  refine lv_goto (tgt := 15) S.1 S.2.1 dL_size_9 (by decide) ?_
  refine lv_iconst (v := 0) S.1 S.2.1 dL_size_15 (by decide) ?_
  exact fx_iret S hr hlocks () hG (rfl) dL_size_16
theorem i_X10_size_X10 : ∀ w ∈ u_ws RX10 TX10 31, w ∈ wsX10_size := by decide +kernel
theorem i_X10_size_X9 : ∀ w ∈ u_ws RX9 TX9 5, w ∈ wsX10_size := by decide +kernel
theorem k547_X10_size {n : Nat} (hn : N0 + 231 ≤ n) (h0 : F (N0 + 164) = some (.inr (12, [.ref (N0 + 165), .int 0, .ref (N0 + 181), .int 0, .int 0, .int 0, .int (-1), .ref (ql 24), .ref (N0 + 182), .ref (N0 + 187), .ref (N0 + 208), .ref (N0 + 209), .ref (N0 + 210), .ref (N0 + 211), .ref (N0 + 212), .int 0, .ref (N0 + 213), .ref (N0 + 218), .ref (N0 + 223), .ref (N0 + 224), .ref (N0 + 225), .ref (N0 + 226), .ref (N0 + 227), .int 0, .int 0, .ref (N0 + 228), .null, .int (-1), .int 0, .int 0, .int 0]))) (h1 : F (N0 + 165) = some (.inl (cTm, 3, .inr (.inr (.inr (.inr (va_up (va_up (va_up (fun _ => none) 0 (some (N0 + 166))) 1 (some (N0 + 171))) 2 (some (N0 + 176))))))))) (h2 : F (N0 + 166) = some (.inr (11, [.ref (N0 + 167), .ref (N0 + 168), .ref (N0 + 169), .ref (N0 + 170), .int 1]))) : Met l yX10_size wsX10_size ({ frames := 3, cells := 0, slots := 0, locals := 64 }) (va_Pc [.ref (N0 + 164), .int 0] (fP N0 D vwCl (fty cI cC cL cD cII cTr cTm cIt cB) (fen ql) F n)) (fQi N0 D vwCl (fty cI cC cL cD cII cTr cTm cIt cB) (fun (r : Int32) (_ : Unit) => r = 1) (fun _ => (fu F (N0 + 164) (.inr (12, [.ref (N0 + 165), .int 0, .ref (N0 + 181), .int 0, .int 0, .int 0, .int (-1), .ref (ql 24), .ref (N0 + 182), .ref (N0 + 187), .ref (N0 + 208), .ref (N0 + 209), .ref (N0 + 210), .ref (N0 + 211), .ref (N0 + 212), .int 0, .ref (N0 + 213), .ref (N0 + 218), .ref (N0 + 223), .ref (N0 + 224), .ref (N0 + 225), .ref (N0 + 226), .ref (N0 + 227), .int 0, .int 0, .ref (N0 + 228), .null, .int (-1), .int 0, .int 0, .int 0])))) (fun _ => n)) 0 0 (fA N0) := by
  refine fx_start 2 rfl rfl (Nat.le_of_ble_eq_true rfl) ?_ rfl
  intro p e s m below meth c ls S hr hlocks hin hG hl
  have hl : lv_has ls 2 [(0, .ref (N0 + 164)), (1, .int 0)] := hl
  have lt_h0 := hG.1.lt h0
  have lt_h1 := hG.1.lt h1
  have lt_h2 := hG.1.lt h2
  refine lv_aload_n S.1 S.2.1 dX10_size_0 rfl (lv_at hl 0 rfl) ?_
  refine lv_iload_n S.1 S.2.1 dX10_size_1 rfl (lv_at hl 1 rfl) ?_
  refine lv_iload_n S.1 S.2.1 dX10_size_2 rfl (lv_at hl 1 rfl) ?_
  refine fx_cVi (As := [.int 0, .int 0]) (rest := []) S hG (k460_X10_areNone (by omega) h0) h0 rfl (cwV 2 S.2.2.2.2 gX10_size_X10_areNone rfl rfl rfl (by decide +kernel) ⟨Nat.le_of_ble_eq_true rfl, Nat.le_of_ble_eq_true rfl⟩) rfl hl.1 rfl (Nat.le_of_ble_eq_true rfl) dX10_size_3 ⟨Nat.le_of_ble_eq_true rfl, Nat.le_of_ble_eq_true rfl⟩ (fun rv_1 _ H locs hp hG => ?_)
  subst rv_1
  refine lv_if_eq (tgt := 13) S.1 S.2.1 dX10_size_6 (by decide) (fun _ => ?_) (fun c => absurd (by decide) c)
  refine lv_aload_n S.1 S.2.1 dX10_size_13 rfl (lv_at hl 0 rfl) ?_
  refine gx_get (C := RX10) (T := TX10) (N := 31) S hG fu_s i_X10_size_X10 rfl 0 (by decide) (by decide +kernel) rfl dX10_size_14 ?_
  refine lv_iload_n S.1 S.2.1 dX10_size_17 rfl (lv_at hl 1 rfl) ?_
  refine gx_aldq (x := (N0 + 166)) S hG 6 rfl (fu_at (by omega) h1) rfl (fin_l (by decide)) (rfl) dX10_size_18 ?_
  refine gx_getN (C := RX9) (T := TX9) (N := 5) S hG (fu_at (by omega) h2) i_X10_size_X9 rfl 4 (by decide) (List.mem_of_getElem? (i := 4) rfl) rfl dX10_size_19 ?_
  exact fx_iret S hr hlocks () hG (rfl) dX10_size_22
theorem k548_X7_size {n : Nat} (hn : N0 + 231 ≤ n) (h0 : F N0 = some (.inr (9, [.ref (N0 + 1), .ref (N0 + 2), .ref (N0 + 11), .ref (N0 + 13), .ref (N0 + 63), .ref (N0 + 65), .ref (N0 + 85), .int (-1), .int (-1), .int 32]))) (h1 : F (N0 + 1) = some (.inl (cTr, 3, .inr (.inr (.inr (.inr (va_up (va_up (va_up (fun _ => none) 0 (some (N0 + 143))) 1 (some (N0 + 150))) 2 (some (N0 + 157))))))))) (h2 : F (N0 + 150) = some (.inr (7, [.ref (N0 + 151), .ref (N0 + 152), .ref (N0 + 153), .ref (N0 + 154), .ref (N0 + 155), .ref (N0 + 156), .int 1]))) : Met l yX7_size wsX7_size ({ frames := 1, cells := 0, slots := 0, locals := 21 }) (va_Pc [.ref N0, .int 1] (fP N0 D vwCl (fty cI cC cL cD cII cTr cTm cIt cB) (fen ql) F n)) (fQi N0 D vwCl (fty cI cC cL cD cII cTr cTm cIt cB) (fun (r : Int32) (_ : Unit) => r = 1) (fun _ => F) (fun _ => n)) 0 0 (fA N0) := by
  refine fx_start 2 rfl rfl (Nat.le_of_ble_eq_true rfl) ?_ rfl
  intro p e s m below meth c ls S hr hlocks hin hG hl
  have hl : lv_has ls 2 [(0, .ref N0), (1, .int 1)] := hl
  have lt_h0 := hG.1.lt h0
  have lt_h1 := hG.1.lt h1
  have lt_h2 := hG.1.lt h2
  refine lv_aload_n S.1 S.2.1 dX7_size_0 rfl (lv_at hl 0 rfl) ?_
  refine lv_iload_n S.1 S.2.1 dX7_size_1 rfl (lv_at hl 1 rfl) ?_
  refine fx_cVr (As := [.int 1]) (rest := []) S hG (k42_X7_treeAt (by omega) h0 h1) h0 rfl (cwV 1 S.2.2.2.2 gX7_size_X7_treeAt rfl rfl rfl (by decide +kernel) ⟨Nat.le_of_ble_eq_true rfl, Nat.le_of_ble_eq_true rfl⟩) rfl hl.1 rfl (Nat.le_of_ble_eq_true rfl) dX7_size_2 ⟨Nat.le_of_ble_eq_true rfl, Nat.le_of_ble_eq_true rfl⟩ (fun rv_1 _ H locs hp hG => ?_)
  subst rv_1
  refine gx_get (C := RX5) (T := TX5) (N := 7) S hG h2 i_X7_size_X5 rfl 6 (by decide) (by decide +kernel) rfl dX7_size_5 ?_
  exact fx_iret S hr hlocks () hG (rfl) dX7_size_8
theorem k549_L_size {n : Nat} (hn : N0 + 231 ≤ n) (h0 : F N0 = some (.inr (9, [.ref (N0 + 1), .ref (N0 + 2), .ref (N0 + 11), .ref (N0 + 13), .ref (N0 + 63), .ref (N0 + 65), .ref (N0 + 85), .int (-1), .int (-1), .int 32]))) (h1 : F (N0 + 1) = some (.inl (cTr, 3, .inr (.inr (.inr (.inr (va_up (va_up (va_up (fun _ => none) 0 (some (N0 + 143))) 1 (some (N0 + 150))) 2 (some (N0 + 157))))))))) (h2 : F (N0 + 150) = some (.inr (7, [.ref (N0 + 151), .ref (N0 + 152), .ref (N0 + 153), .ref (N0 + 154), .ref (N0 + 155), .ref (N0 + 156), .int 1]))) (h3 : F (N0 + 229) = some (.inl (cL, 1, .inr (.inl (fun _ => 0))))) : Met l yL_size wsL_size ({ frames := 2, cells := 0, slots := 0, locals := 42 }) (va_Pc [.ref N0, .int 1, .ref (N0 + 229)] (fP N0 D vwCl (fty cI cC cL cD cII cTr cTm cIt cB) (fen ql) F n)) (fQi N0 D vwCl (fty cI cC cL cD cII cTr cTm cIt cB) (fun (r : Int32) (_ : Unit) => r = 0) (fun _ => (fu F (N0 + 229) (.inl (cL, 1, .inr (.inl (vp_updL (fun _ => 0) 0 1)))))) (fun _ => n)) 0 0 (fA N0) := by
  refine fx_startW (hh := [(0, 9, 12, 19)]) 4 rfl rfl (Nat.le_of_ble_eq_true rfl) ?_ rfl
  intro p e s m below meth c ls S htab hr hlocks hG hl
  have hl : lv_has ls 4 [(0, .ref N0), (1, .int 1), (2, .ref (N0 + 229))] := hl
  have lt_h0 := hG.1.lt h0
  have lt_h1 := hG.1.lt h1
  have lt_h2 := hG.1.lt h2
  have lt_h3 := hG.1.lt h3
  refine lv_aload_n S.1 S.2.1 dL_size_0 rfl (lv_at hl 2 rfl) ?_
  refine lv_iconst (v := 0) S.1 S.2.1 dL_size_1 (by decide) ?_
  refine lv_aload_n S.1 S.2.1 dL_size_2 rfl (lv_at hl 0 rfl) ?_
  refine lv_iload_n S.1 S.2.1 dL_size_3 rfl (lv_at hl 1 rfl) ?_
  refine fx_cVi (As := [.int 1]) (rest := [.int 0, .ref (N0 + 229)]) S hG (k548_X7_size (by omega) h0 h1 h2) h0 rfl (cwV 1 S.2.2.2.2 gL_size_X7_size rfl rfl rfl (by decide +kernel) ⟨Nat.le_of_ble_eq_true rfl, Nat.le_of_ble_eq_true rfl⟩) rfl hl.1 rfl (Nat.le_of_ble_eq_true rfl) dL_size_4 ⟨Nat.le_of_ble_eq_true rfl, Nat.le_of_ble_eq_true rfl⟩ (fun rv_1 _ H locs hp hG => ?_)
  subst rv_1
  refine lv_i2l (v := 1) S.1 S.2.1 dL_size_7 (by decide) ?_
  refine gx_last (f' := vp_updL (fun _ => 0) 0 1) S hG 2 h3 rfl (fin_l (by decide)) dL_size_8 rfl (fun H locs hG => ?_)
  refine lv_goto (tgt := 15) S.1 S.2.1 dL_size_9 (by decide) ?_
  refine lv_iconst (v := 0) S.1 S.2.1 dL_size_15 (by decide) ?_
  exact fx_iret S hr hlocks () hG (rfl) dL_size_16
theorem k550_X10_size {n : Nat} (hn : N0 + 231 ≤ n) (h0 : F (N0 + 164) = some (.inr (12, [.ref (N0 + 165), .int 0, .ref (N0 + 181), .int 0, .int 0, .int 0, .int (-1), .ref (ql 24), .ref (N0 + 182), .ref (N0 + 187), .ref (N0 + 208), .ref (N0 + 209), .ref (N0 + 210), .ref (N0 + 211), .ref (N0 + 212), .int 0, .ref (N0 + 213), .ref (N0 + 218), .ref (N0 + 223), .ref (N0 + 224), .ref (N0 + 225), .ref (N0 + 226), .ref (N0 + 227), .int 0, .int 0, .ref (N0 + 228), .null, .int (-1), .int 0, .int 0, .int 0]))) (h1 : F (N0 + 165) = some (.inl (cTm, 3, .inr (.inr (.inr (.inr (va_up (va_up (va_up (fun _ => none) 0 (some (N0 + 166))) 1 (some (N0 + 171))) 2 (some (N0 + 176))))))))) (h2 : F (N0 + 171) = some (.inr (11, [.ref (N0 + 172), .ref (N0 + 173), .ref (N0 + 174), .ref (N0 + 175), .int 1]))) : Met l yX10_size wsX10_size ({ frames := 3, cells := 0, slots := 0, locals := 64 }) (va_Pc [.ref (N0 + 164), .int 1] (fP N0 D vwCl (fty cI cC cL cD cII cTr cTm cIt cB) (fen ql) F n)) (fQi N0 D vwCl (fty cI cC cL cD cII cTr cTm cIt cB) (fun (r : Int32) (_ : Unit) => r = 1) (fun _ => (fu F (N0 + 164) (.inr (12, [.ref (N0 + 165), .int 0, .ref (N0 + 181), .int 0, .int 0, .int 0, .int (-1), .ref (ql 24), .ref (N0 + 182), .ref (N0 + 187), .ref (N0 + 208), .ref (N0 + 209), .ref (N0 + 210), .ref (N0 + 211), .ref (N0 + 212), .int 0, .ref (N0 + 213), .ref (N0 + 218), .ref (N0 + 223), .ref (N0 + 224), .ref (N0 + 225), .ref (N0 + 226), .ref (N0 + 227), .int 0, .int 0, .ref (N0 + 228), .null, .int (-1), .int 0, .int 0, .int 0])))) (fun _ => n)) 0 0 (fA N0) := by
  refine fx_start 2 rfl rfl (Nat.le_of_ble_eq_true rfl) ?_ rfl
  intro p e s m below meth c ls S hr hlocks hin hG hl
  have hl : lv_has ls 2 [(0, .ref (N0 + 164)), (1, .int 1)] := hl
  have lt_h0 := hG.1.lt h0
  have lt_h1 := hG.1.lt h1
  have lt_h2 := hG.1.lt h2
  refine lv_aload_n S.1 S.2.1 dX10_size_0 rfl (lv_at hl 0 rfl) ?_
  refine lv_iload_n S.1 S.2.1 dX10_size_1 rfl (lv_at hl 1 rfl) ?_
  refine lv_iload_n S.1 S.2.1 dX10_size_2 rfl (lv_at hl 1 rfl) ?_
  refine fx_cVi (As := [.int 1, .int 1]) (rest := []) S hG (k498_X10_areNone (by omega) h0) h0 rfl (cwV 2 S.2.2.2.2 gX10_size_X10_areNone rfl rfl rfl (by decide +kernel) ⟨Nat.le_of_ble_eq_true rfl, Nat.le_of_ble_eq_true rfl⟩) rfl hl.1 rfl (Nat.le_of_ble_eq_true rfl) dX10_size_3 ⟨Nat.le_of_ble_eq_true rfl, Nat.le_of_ble_eq_true rfl⟩ (fun rv_1 _ H locs hp hG => ?_)
  subst rv_1
  refine lv_if_eq (tgt := 13) S.1 S.2.1 dX10_size_6 (by decide) (fun _ => ?_) (fun c => absurd (by decide) c)
  refine lv_aload_n S.1 S.2.1 dX10_size_13 rfl (lv_at hl 0 rfl) ?_
  refine gx_get (C := RX10) (T := TX10) (N := 31) S hG fu_s i_X10_size_X10 rfl 0 (by decide) (by decide +kernel) rfl dX10_size_14 ?_
  refine lv_iload_n S.1 S.2.1 dX10_size_17 rfl (lv_at hl 1 rfl) ?_
  refine gx_aldq (x := (N0 + 171)) S hG 6 rfl (fu_at (by omega) h1) rfl (fin_l (by decide)) (rfl) dX10_size_18 ?_
  refine gx_getN (C := RX9) (T := TX9) (N := 5) S hG (fu_at (by omega) h2) i_X10_size_X9 rfl 4 (by decide) (List.mem_of_getElem? (i := 4) rfl) rfl dX10_size_19 ?_
  exact fx_iret S hr hlocks () hG (rfl) dX10_size_22
theorem k551_X7_size {n : Nat} (hn : N0 + 231 ≤ n) (h0 : F N0 = some (.inr (9, [.ref (N0 + 1), .ref (N0 + 2), .ref (N0 + 11), .ref (N0 + 13), .ref (N0 + 63), .ref (N0 + 65), .ref (N0 + 85), .int (-1), .int (-1), .int 32]))) (h1 : F (N0 + 1) = some (.inl (cTr, 3, .inr (.inr (.inr (.inr (va_up (va_up (va_up (fun _ => none) 0 (some (N0 + 143))) 1 (some (N0 + 150))) 2 (some (N0 + 157))))))))) (h2 : F (N0 + 157) = some (.inr (7, [.ref (N0 + 158), .ref (N0 + 159), .ref (N0 + 160), .ref (N0 + 161), .ref (N0 + 162), .ref (N0 + 163), .int 1]))) : Met l yX7_size wsX7_size ({ frames := 1, cells := 0, slots := 0, locals := 21 }) (va_Pc [.ref N0, .int 2] (fP N0 D vwCl (fty cI cC cL cD cII cTr cTm cIt cB) (fen ql) F n)) (fQi N0 D vwCl (fty cI cC cL cD cII cTr cTm cIt cB) (fun (r : Int32) (_ : Unit) => r = 1) (fun _ => F) (fun _ => n)) 0 0 (fA N0) := by
  refine fx_start 2 rfl rfl (Nat.le_of_ble_eq_true rfl) ?_ rfl
  intro p e s m below meth c ls S hr hlocks hin hG hl
  have hl : lv_has ls 2 [(0, .ref N0), (1, .int 2)] := hl
  have lt_h0 := hG.1.lt h0
  have lt_h1 := hG.1.lt h1
  have lt_h2 := hG.1.lt h2
  refine lv_aload_n S.1 S.2.1 dX7_size_0 rfl (lv_at hl 0 rfl) ?_
  refine lv_iload_n S.1 S.2.1 dX7_size_1 rfl (lv_at hl 1 rfl) ?_
  refine fx_cVr (As := [.int 2]) (rest := []) S hG (k48_X7_treeAt (by omega) h0 h1) h0 rfl (cwV 1 S.2.2.2.2 gX7_size_X7_treeAt rfl rfl rfl (by decide +kernel) ⟨Nat.le_of_ble_eq_true rfl, Nat.le_of_ble_eq_true rfl⟩) rfl hl.1 rfl (Nat.le_of_ble_eq_true rfl) dX7_size_2 ⟨Nat.le_of_ble_eq_true rfl, Nat.le_of_ble_eq_true rfl⟩ (fun rv_1 _ H locs hp hG => ?_)
  subst rv_1
  refine gx_get (C := RX5) (T := TX5) (N := 7) S hG h2 i_X7_size_X5 rfl 6 (by decide) (by decide +kernel) rfl dX7_size_5 ?_
  exact fx_iret S hr hlocks () hG (rfl) dX7_size_8
theorem k552_L_size {n : Nat} (hn : N0 + 231 ≤ n) (h0 : F N0 = some (.inr (9, [.ref (N0 + 1), .ref (N0 + 2), .ref (N0 + 11), .ref (N0 + 13), .ref (N0 + 63), .ref (N0 + 65), .ref (N0 + 85), .int (-1), .int (-1), .int 32]))) (h1 : F (N0 + 1) = some (.inl (cTr, 3, .inr (.inr (.inr (.inr (va_up (va_up (va_up (fun _ => none) 0 (some (N0 + 143))) 1 (some (N0 + 150))) 2 (some (N0 + 157))))))))) (h2 : F (N0 + 157) = some (.inr (7, [.ref (N0 + 158), .ref (N0 + 159), .ref (N0 + 160), .ref (N0 + 161), .ref (N0 + 162), .ref (N0 + 163), .int 1]))) (h3 : F (N0 + 229) = some (.inl (cL, 1, .inr (.inl (fun _ => 0))))) : Met l yL_size wsL_size ({ frames := 2, cells := 0, slots := 0, locals := 42 }) (va_Pc [.ref N0, .int 2, .ref (N0 + 229)] (fP N0 D vwCl (fty cI cC cL cD cII cTr cTm cIt cB) (fen ql) F n)) (fQi N0 D vwCl (fty cI cC cL cD cII cTr cTm cIt cB) (fun (r : Int32) (_ : Unit) => r = 0) (fun _ => (fu F (N0 + 229) (.inl (cL, 1, .inr (.inl (vp_updL (fun _ => 0) 0 1)))))) (fun _ => n)) 0 0 (fA N0) := by
  refine fx_startW (hh := [(0, 9, 12, 19)]) 4 rfl rfl (Nat.le_of_ble_eq_true rfl) ?_ rfl
  intro p e s m below meth c ls S htab hr hlocks hG hl
  have hl : lv_has ls 4 [(0, .ref N0), (1, .int 2), (2, .ref (N0 + 229))] := hl
  have lt_h0 := hG.1.lt h0
  have lt_h1 := hG.1.lt h1
  have lt_h2 := hG.1.lt h2
  have lt_h3 := hG.1.lt h3
  refine lv_aload_n S.1 S.2.1 dL_size_0 rfl (lv_at hl 2 rfl) ?_
  refine lv_iconst (v := 0) S.1 S.2.1 dL_size_1 (by decide) ?_
  refine lv_aload_n S.1 S.2.1 dL_size_2 rfl (lv_at hl 0 rfl) ?_
  refine lv_iload_n S.1 S.2.1 dL_size_3 rfl (lv_at hl 1 rfl) ?_
  refine fx_cVi (As := [.int 2]) (rest := [.int 0, .ref (N0 + 229)]) S hG (k551_X7_size (by omega) h0 h1 h2) h0 rfl (cwV 1 S.2.2.2.2 gL_size_X7_size rfl rfl rfl (by decide +kernel) ⟨Nat.le_of_ble_eq_true rfl, Nat.le_of_ble_eq_true rfl⟩) rfl hl.1 rfl (Nat.le_of_ble_eq_true rfl) dL_size_4 ⟨Nat.le_of_ble_eq_true rfl, Nat.le_of_ble_eq_true rfl⟩ (fun rv_1 _ H locs hp hG => ?_)
  subst rv_1
  refine lv_i2l (v := 1) S.1 S.2.1 dL_size_7 (by decide) ?_
  refine gx_last (f' := vp_updL (fun _ => 0) 0 1) S hG 2 h3 rfl (fin_l (by decide)) dL_size_8 rfl (fun H locs hG => ?_)
  refine lv_goto (tgt := 15) S.1 S.2.1 dL_size_9 (by decide) ?_
  refine lv_iconst (v := 0) S.1 S.2.1 dL_size_15 (by decide) ?_
  exact fx_iret S hr hlocks () hG (rfl) dL_size_16
theorem k553_X10_size {n : Nat} (hn : N0 + 231 ≤ n) (h0 : F (N0 + 164) = some (.inr (12, [.ref (N0 + 165), .int 0, .ref (N0 + 181), .int 0, .int 0, .int 0, .int (-1), .ref (ql 24), .ref (N0 + 182), .ref (N0 + 187), .ref (N0 + 208), .ref (N0 + 209), .ref (N0 + 210), .ref (N0 + 211), .ref (N0 + 212), .int 0, .ref (N0 + 213), .ref (N0 + 218), .ref (N0 + 223), .ref (N0 + 224), .ref (N0 + 225), .ref (N0 + 226), .ref (N0 + 227), .int 0, .int 0, .ref (N0 + 228), .null, .int (-1), .int 0, .int 0, .int 0]))) (h1 : F (N0 + 165) = some (.inl (cTm, 3, .inr (.inr (.inr (.inr (va_up (va_up (va_up (fun _ => none) 0 (some (N0 + 166))) 1 (some (N0 + 171))) 2 (some (N0 + 176))))))))) (h2 : F (N0 + 176) = some (.inr (11, [.ref (N0 + 177), .ref (N0 + 178), .ref (N0 + 179), .ref (N0 + 180), .int 1]))) : Met l yX10_size wsX10_size ({ frames := 3, cells := 0, slots := 0, locals := 64 }) (va_Pc [.ref (N0 + 164), .int 2] (fP N0 D vwCl (fty cI cC cL cD cII cTr cTm cIt cB) (fen ql) F n)) (fQi N0 D vwCl (fty cI cC cL cD cII cTr cTm cIt cB) (fun (r : Int32) (_ : Unit) => r = 1) (fun _ => (fu F (N0 + 164) (.inr (12, [.ref (N0 + 165), .int 0, .ref (N0 + 181), .int 0, .int 0, .int 0, .int (-1), .ref (ql 24), .ref (N0 + 182), .ref (N0 + 187), .ref (N0 + 208), .ref (N0 + 209), .ref (N0 + 210), .ref (N0 + 211), .ref (N0 + 212), .int 0, .ref (N0 + 213), .ref (N0 + 218), .ref (N0 + 223), .ref (N0 + 224), .ref (N0 + 225), .ref (N0 + 226), .ref (N0 + 227), .int 0, .int 0, .ref (N0 + 228), .null, .int (-1), .int 0, .int 0, .int 0])))) (fun _ => n)) 0 0 (fA N0) := by
  refine fx_start 2 rfl rfl (Nat.le_of_ble_eq_true rfl) ?_ rfl
  intro p e s m below meth c ls S hr hlocks hin hG hl
  have hl : lv_has ls 2 [(0, .ref (N0 + 164)), (1, .int 2)] := hl
  have lt_h0 := hG.1.lt h0
  have lt_h1 := hG.1.lt h1
  have lt_h2 := hG.1.lt h2
  refine lv_aload_n S.1 S.2.1 dX10_size_0 rfl (lv_at hl 0 rfl) ?_
  refine lv_iload_n S.1 S.2.1 dX10_size_1 rfl (lv_at hl 1 rfl) ?_
  refine lv_iload_n S.1 S.2.1 dX10_size_2 rfl (lv_at hl 1 rfl) ?_
  refine fx_cVi (As := [.int 2, .int 2]) (rest := []) S hG (k530_X10_areNone (by omega) h0) h0 rfl (cwV 2 S.2.2.2.2 gX10_size_X10_areNone rfl rfl rfl (by decide +kernel) ⟨Nat.le_of_ble_eq_true rfl, Nat.le_of_ble_eq_true rfl⟩) rfl hl.1 rfl (Nat.le_of_ble_eq_true rfl) dX10_size_3 ⟨Nat.le_of_ble_eq_true rfl, Nat.le_of_ble_eq_true rfl⟩ (fun rv_1 _ H locs hp hG => ?_)
  subst rv_1
  refine lv_if_eq (tgt := 13) S.1 S.2.1 dX10_size_6 (by decide) (fun _ => ?_) (fun c => absurd (by decide) c)
  refine lv_aload_n S.1 S.2.1 dX10_size_13 rfl (lv_at hl 0 rfl) ?_
  refine gx_get (C := RX10) (T := TX10) (N := 31) S hG fu_s i_X10_size_X10 rfl 0 (by decide) (by decide +kernel) rfl dX10_size_14 ?_
  refine lv_iload_n S.1 S.2.1 dX10_size_17 rfl (lv_at hl 1 rfl) ?_
  refine gx_aldq (x := (N0 + 176)) S hG 6 rfl (fu_at (by omega) h1) rfl (fin_l (by decide)) (rfl) dX10_size_18 ?_
  refine gx_getN (C := RX9) (T := TX9) (N := 5) S hG (fu_at (by omega) h2) i_X10_size_X9 rfl 4 (by decide) (List.mem_of_getElem? (i := 4) rfl) rfl dX10_size_19 ?_
  exact fx_iret S hr hlocks () hG (rfl) dX10_size_22
theorem k554_X7_size {n : Nat} {a1 : Int32} (g_a1_ge_3 : 3 ≤ a1) (hst : l.stackTraces = false) (hn : N0 + 231 ≤ n) (h0 : F N0 = some (.inr (9, [.ref (N0 + 1), .ref (N0 + 2), .ref (N0 + 11), .ref (N0 + 13), .ref (N0 + 63), .ref (N0 + 65), .ref (N0 + 85), .int (-1), .int (-1), .int 32]))) : vx_Met l yX7_size wsX7_size ({ frames := 7, cells := 1, slots := 6, locals := 103 }) (va_Pc [.ref N0, .int a1] (fP N0 D vwCl (fty cI cC cL cD cII cTr cTm cIt cB) (fen ql) F n)) (fNo N0 D vwCl (fty cI cC cL cD cII cTr cTm cIt cB) F n) (fXC N0 D vwCl (fty cI cC cL cD cII cTr cTm cIt cB) "java/lang/IndexOutOfBoundsException" F n) 1 6 (fA N0) := by
  refine fx_startX 2 rfl rfl (Nat.le_of_ble_eq_true rfl) ?_ rfl
  intro p e s m below meth c ls S htab hlocks hG hl
  have hl : lv_has ls 2 [(0, .ref N0), (1, .int a1)] := hl
  have lt_h0 := hG.1.lt h0
  refine lv_aload_n S.1 S.2.1 dX7_size_0 rfl (lv_at hl 0 rfl) ?_
  refine lv_iload_n S.1 S.2.1 dX7_size_1 rfl (lv_at hl 1 rfl) ?_
  refine fx_xV (As := [.int a1]) (rest := []) S hG (k54_X7_treeAt g_a1_ge_3 hst (by omega)) h0 rfl (cwV 1 S.2.2.2.2 gX7_size_X7_treeAt rfl rfl rfl (by decide +kernel) ⟨Nat.le_of_ble_eq_true rfl, Nat.le_of_ble_eq_true rfl⟩) rfl hl.1 rfl (Nat.le_of_ble_eq_true rfl) dX7_size_2 ⟨Nat.le_of_ble_eq_true rfl, Nat.le_of_ble_eq_true rfl⟩ (fun ceq_1 q_1 H locs n_2 hn_2 hG h1q_1 h2q_1 h3q_1 => ?_)
  exact fx_out htab hlocks hG (by omega) h1q_1 h2q_1 h3q_1 (by decide) (by decide)
theorem k555_L_size {n : Nat} {a1 : Int32} (g_a1_ge_3 : 3 ≤ a1) (hst : l.stackTraces = false) (hn : N0 + 231 ≤ n) (h0 : F N0 = some (.inr (9, [.ref (N0 + 1), .ref (N0 + 2), .ref (N0 + 11), .ref (N0 + 13), .ref (N0 + 63), .ref (N0 + 65), .ref (N0 + 85), .int (-1), .int (-1), .int 32]))) : Met l yL_size wsL_size ({ frames := 8, cells := 1, slots := 6, locals := 124 }) (va_Pc [.ref N0, .int a1, .ref (N0 + 229)] (fP N0 D vwCl (fty cI cC cL cD cII cTr cTm cIt cB) (fen ql) F n)) (fQi N0 D vwCl (fty cI cC cL cD cII cTr cTm cIt cB) (fun (r : Int32) (u : Nat) => r = 1 ∧ n ≤ u) (fun _ => F) (fun u => u)) 1 6 (fA N0) := by
  refine fx_startW (hh := [(0, 9, 12, 19)]) 4 rfl rfl (Nat.le_of_ble_eq_true rfl) ?_ rfl
  intro p e s m below meth c ls S htab hr hlocks hG hl
  have hl : lv_has ls 4 [(0, .ref N0), (1, .int a1), (2, .ref (N0 + 229))] := hl
  have lt_h0 := hG.1.lt h0
  refine lv_aload_n S.1 S.2.1 dL_size_0 rfl (lv_at hl 2 rfl) ?_
  refine lv_iconst (v := 0) S.1 S.2.1 dL_size_1 (by decide) ?_
  refine lv_aload_n S.1 S.2.1 dL_size_2 rfl (lv_at hl 0 rfl) ?_
  refine lv_iload_n S.1 S.2.1 dL_size_3 rfl (lv_at hl 1 rfl) ?_
  refine fx_xV (As := [.int a1]) (rest := [.int 0, .ref (N0 + 229)]) S hG (k554_X7_size g_a1_ge_3 hst (by omega) h0) h0 rfl (cwV 1 S.2.2.2.2 gL_size_X7_size rfl rfl rfl (by decide +kernel) ⟨Nat.le_of_ble_eq_true rfl, Nat.le_of_ble_eq_true rfl⟩) rfl hl.1 rfl (Nat.le_of_ble_eq_true rfl) dL_size_4 ⟨Nat.le_of_ble_eq_true rfl, Nat.le_of_ble_eq_true rfl⟩ (fun ceq_1 q_1 H locs n_2 hn_2 hG h1q_1 h2q_1 h3q_1 => ?_)
  refine fx_catch (hh := [(0, 9, 12, 19)]) S htab hG h1q_1 h2q_1 h3q_1 [] ⟨0, 9, 12, 19⟩ [] rfl [] (fun z hz => absurd hz List.not_mem_nil) (by decide) (by decide) (by decide +kernel) (List.mem_of_getElem? (i := 2) rfl) ?_
  refine lv_astore_n (lv' := [(3, .ref q_1), (0, .ref N0), (1, .int a1), (2, .ref (N0 + 229))]) S.1 S.2.1 dL_size_12 rfl hl (by decide) rfl (fun ls hl => ?_)
  refine lv_iconst (v := 1) S.1 S.2.1 dL_size_13 (by decide) ?_
  exact fx_iret S hr hlocks n_2 hG (⟨rfl, hn_2⟩) dL_size_14
theorem k556_X10_areNone {n : Nat} {a1 : Int32} (g_a1_ge_3 : 3 ≤ a1) (hn : N0 + 231 ≤ n) (h0 : F (N0 + 164) = some (.inr (12, [.ref (N0 + 165), .int 0, .ref (N0 + 181), .int 0, .int 0, .int 0, .int (-1), .ref (ql 24), .ref (N0 + 182), .ref (N0 + 187), .ref (N0 + 208), .ref (N0 + 209), .ref (N0 + 210), .ref (N0 + 211), .ref (N0 + 212), .int 0, .ref (N0 + 213), .ref (N0 + 218), .ref (N0 + 223), .ref (N0 + 224), .ref (N0 + 225), .ref (N0 + 226), .ref (N0 + 227), .int 0, .int 0, .ref (N0 + 228), .null, .int (-1), .int 0, .int 0, .int 0]))) : Met l yX10_areNone wsX10_areNone ({ frames := 2, cells := 0, slots := 0, locals := 42 }) (va_Pc [.ref (N0 + 164), .int a1, .int a1] (fP N0 D vwCl (fty cI cC cL cD cII cTr cTm cIt cB) (fen ql) F n)) (fQi N0 D vwCl (fty cI cC cL cD cII cTr cTm cIt cB) (fun (r : Int32) (_ : Unit) => r = 1) (fun _ => (fu F (N0 + 164) (.inr (12, [.ref (N0 + 165), .int 1, .ref (N0 + 181), .int 0, .int 0, .int 0, .int (-1), .ref (ql 24), .ref (N0 + 182), .ref (N0 + 187), .ref (N0 + 208), .ref (N0 + 209), .ref (N0 + 210), .ref (N0 + 211), .ref (N0 + 212), .int 0, .ref (N0 + 213), .ref (N0 + 218), .ref (N0 + 223), .ref (N0 + 224), .ref (N0 + 225), .ref (N0 + 226), .ref (N0 + 227), .int 0, .int 0, .ref (N0 + 228), .null, .int (-1), .int 0, .int 0, .int 0])))) (fun _ => n)) 0 0 (fA N0) := by
  refine fx_start 3 rfl rfl (Nat.le_of_ble_eq_true rfl) ?_ rfl
  intro p e s m below meth c ls S hr hlocks hin hG hl
  have hl : lv_has ls 3 [(0, .ref (N0 + 164)), (1, .int a1), (2, .int a1)] := hl
  have lt_h0 := hG.1.lt h0
  refine lv_aload_n S.1 S.2.1 dX10_areNone_0 rfl (lv_at hl 0 rfl) ?_
  refine lv_iload_n S.1 S.2.1 dX10_areNone_1 rfl (lv_at hl 1 rfl) ?_
  refine fx_cSi (As := [.int a1]) (rest := [.ref (N0 + 164)]) S hG (k58_X10_isTree g_a1_ge_3 (by omega)) (cwS 1 S.2.2.2.2 gX10_areNone_X10_isTree rfl rfl rfl (by decide +kernel) ⟨Nat.le_of_ble_eq_true rfl, Nat.le_of_ble_eq_true rfl⟩) rfl hl.1 rfl (Nat.le_of_ble_eq_true rfl) dX10_areNone_2 ⟨Nat.le_of_ble_eq_true rfl, Nat.le_of_ble_eq_true rfl⟩ (fun rv_1 _ H locs hp hG => ?_)
  subst rv_1
  refine lv_if_eq (tgt := 19) S.1 S.2.1 dX10_areNone_5 (by decide) (fun _ => ?_) (fun c => absurd (by decide) c)
  refine lv_iconst (v := 1) S.1 S.2.1 dX10_areNone_19 (by decide) ?_
  refine gx_put (C := RX10) (T := TX10) (N := 31) (ty := .int) (v := .int 1) (fs' := [.ref (N0 + 165), .int 1, .ref (N0 + 181), .int 0, .int 0, .int 0, .int (-1), .ref (ql 24), .ref (N0 + 182), .ref (N0 + 187), .ref (N0 + 208), .ref (N0 + 209), .ref (N0 + 210), .ref (N0 + 211), .ref (N0 + 212), .int 0, .ref (N0 + 213), .ref (N0 + 218), .ref (N0 + 223), .ref (N0 + 224), .ref (N0 + 225), .ref (N0 + 226), .ref (N0 + 227), .int 0, .int 0, .ref (N0 + 228), .null, .int (-1), .int 0, .int 0, .int 0]) S hG h0 i_X10_areNone_X10 rfl 1 (by decide) tyX10 tyX10_ok nmX10 (by decide +kernel) rfl (by decide +kernel) rfl rfl (Nat.le_of_ble_eq_true rfl) rfl dX10_areNone_20 (fun H locs hG => ?_)
  refine lv_aload_n S.1 S.2.1 dX10_areNone_23 rfl (lv_at hl 0 rfl) ?_
  refine gx_get (C := RX10) (T := TX10) (N := 31) S hG fu_s i_X10_areNone_X10 rfl 1 (by decide) (by decide +kernel) rfl dX10_areNone_24 ?_
  refine lv_if_le (tgt := 34) S.1 S.2.1 dX10_areNone_27 (by decide) (fun c => absurd c (by decide)) (fun _ => ?_)
  refine lv_iconst (v := 1) S.1 S.2.1 dX10_areNone_30 (by decide) ?_
  refine lv_goto (tgt := 35) S.1 S.2.1 dX10_areNone_31 (by decide) ?_
  exact fx_zret S hr (rfl) hlocks () hG (rfl) dX10_areNone_35
theorem k557_X10_size {n : Nat} {a1 : Int32} (g_a1_ge_3 : 3 ≤ a1) (hn : N0 + 231 ≤ n) (h0 : F (N0 + 164) = some (.inr (12, [.ref (N0 + 165), .int 0, .ref (N0 + 181), .int 0, .int 0, .int 0, .int (-1), .ref (ql 24), .ref (N0 + 182), .ref (N0 + 187), .ref (N0 + 208), .ref (N0 + 209), .ref (N0 + 210), .ref (N0 + 211), .ref (N0 + 212), .int 0, .ref (N0 + 213), .ref (N0 + 218), .ref (N0 + 223), .ref (N0 + 224), .ref (N0 + 225), .ref (N0 + 226), .ref (N0 + 227), .int 0, .int 0, .ref (N0 + 228), .null, .int (-1), .int 0, .int 0, .int 0]))) : Met l yX10_size wsX10_size ({ frames := 3, cells := 0, slots := 0, locals := 64 }) (va_Pc [.ref (N0 + 164), .int a1] (fP N0 D vwCl (fty cI cC cL cD cII cTr cTm cIt cB) (fen ql) F n)) (fQi N0 D vwCl (fty cI cC cL cD cII cTr cTm cIt cB) (fun (r : Int32) (_ : Unit) => r = 0) (fun _ => (fu F (N0 + 164) (.inr (12, [.ref (N0 + 165), .int 1, .ref (N0 + 181), .int 0, .int 0, .int 0, .int (-1), .ref (ql 24), .ref (N0 + 182), .ref (N0 + 187), .ref (N0 + 208), .ref (N0 + 209), .ref (N0 + 210), .ref (N0 + 211), .ref (N0 + 212), .int 0, .ref (N0 + 213), .ref (N0 + 218), .ref (N0 + 223), .ref (N0 + 224), .ref (N0 + 225), .ref (N0 + 226), .ref (N0 + 227), .int 0, .int 0, .ref (N0 + 228), .null, .int (-1), .int 0, .int 0, .int 0])))) (fun _ => n)) 0 0 (fA N0) := by
  refine fx_start 2 rfl rfl (Nat.le_of_ble_eq_true rfl) ?_ rfl
  intro p e s m below meth c ls S hr hlocks hin hG hl
  have hl : lv_has ls 2 [(0, .ref (N0 + 164)), (1, .int a1)] := hl
  have lt_h0 := hG.1.lt h0
  refine lv_aload_n S.1 S.2.1 dX10_size_0 rfl (lv_at hl 0 rfl) ?_
  refine lv_iload_n S.1 S.2.1 dX10_size_1 rfl (lv_at hl 1 rfl) ?_
  refine lv_iload_n S.1 S.2.1 dX10_size_2 rfl (lv_at hl 1 rfl) ?_
  refine fx_cVi (As := [.int a1, .int a1]) (rest := []) S hG (k556_X10_areNone g_a1_ge_3 (by omega) h0) h0 rfl (cwV 2 S.2.2.2.2 gX10_size_X10_areNone rfl rfl rfl (by decide +kernel) ⟨Nat.le_of_ble_eq_true rfl, Nat.le_of_ble_eq_true rfl⟩) rfl hl.1 rfl (Nat.le_of_ble_eq_true rfl) dX10_size_3 ⟨Nat.le_of_ble_eq_true rfl, Nat.le_of_ble_eq_true rfl⟩ (fun rv_1 _ H locs hp hG => ?_)
  subst rv_1
  refine lv_if_eq (tgt := 13) S.1 S.2.1 dX10_size_6 (by decide) (fun c => absurd c (by decide)) (fun _ => ?_)
  refine lv_iconst (v := 0) S.1 S.2.1 dX10_size_9 (by decide) ?_
  refine lv_goto (tgt := 22) S.1 S.2.1 dX10_size_10 (by decide) ?_
  exact fx_iret S hr hlocks () hG (rfl) dX10_size_22
theorem l12_0 {p : Program} {e : Env} {s : State} {m : MethodId} {below : List Frame} {meth : Method} {c : Code} {b : Nat} {xs : Nat → Int32} {H : Heap} {locs : List Loc} {ls : Array Slot} {n : Nat} {a1 a2 a3 a4 : Int32} (g_a1_le_m1 : a1 ≤ (-1)) (S : CallFix p m c cL_law 9 s #[.ref b] wsL_law "TreeDifferLaw") (hr : meth.sig.returnType = ret) (hlocks : meth.locks = false) (hst : l.stackTraces = false) (hX : va_X b 5 xs s s.heap) (hbl : b < s.heap.size ∧ b < N0) (hN : s.heap.size = N0) (hn : N0 + 231 ≤ n) (hx1 : xs 1 = a1) (hx2 : xs 2 = a2) (hx3 : xs 3 = a3) (hx4 : xs 4 = a4) (h0 : F N0 = some (.inr (9, [.ref (N0 + 1), .ref (N0 + 2), .ref (N0 + 11), .ref (N0 + 13), .ref (N0 + 63), .ref (N0 + 65), .ref (N0 + 85), .int (-1), .int (-1), .int 32]))) (h1 : F (N0 + 164) = some (.inr (12, [.ref (N0 + 165), .int 0, .ref (N0 + 181), .int 0, .int 0, .int 0, .int (-1), .ref (ql 24), .ref (N0 + 182), .ref (N0 + 187), .ref (N0 + 208), .ref (N0 + 209), .ref (N0 + 210), .ref (N0 + 211), .ref (N0 + 212), .int 0, .ref (N0 + 213), .ref (N0 + 218), .ref (N0 + 223), .ref (N0 + 224), .ref (N0 + 225), .ref (N0 + 226), .ref (N0 + 227), .int 0, .int 0, .ref (N0 + 228), .null, .int (-1), .int 0, .int 0, .int 0]))) (hG : fG N0 D vwCl (fty cI cC cL cD cII cTr cTm cIt cB) (fen ql) s F n H locs) (hl : lv_has ls 9 [(0, .ref b), (1, .ref N0), (2, .ref (N0 + 164)), (3, .ref (N0 + 229)), (4, .ref (N0 + 230)), (5, .int 0)]) : W p l e { frames := 2048, cells := 600002, slots := 7302232, locals := 84000 } s m #[.ref b] below meth c H locs 231 4980 (lw_Z below #[.ref b] s) (F0 m 1002 ls []) := by
  have lt_h0 := hG.1.lt h0
  have lt_h1 := hG.1.lt h1
  refine lv_aload_n S.1 S.2.1 dL_law_1002 rfl (lv_at hl 1 rfl) ?_
  refine lv_aload_n S.1 S.2.1 dL_law_1003 rfl (lv_at hl 0 rfl) ?_
  refine lv_iload S.1 S.2.1 dL_law_1004 (lv_at hl 5 rfl) ?_
  refine lv_iconst (v := 1) S.1 S.2.1 dL_law_1006 (by decide) ?_
  refine lv_iadd S.1 S.2.1 dL_law_1007 ?_
  refine fx_topi (y := 1) (by decide) ?_
  refine gx_sld (v := a1) S hG hX hbl (fin_l (by decide)) hx1 dL_law_1008 ?_
  refine lv_aload_n S.1 S.2.1 dL_law_1009 rfl (lv_at hl 3 rfl) ?_
  refine fx_cTi (As := [.ref N0, .int a1, .ref (N0 + 229)]) (rest := []) S hG (k542_L_size g_a1_le_m1 hst (by omega) h0) (vx_cwSW 3 S.2.2.2.2 gL_law_L_size rfl rfl rfl (by decide +kernel) ⟨Nat.le_of_ble_eq_true rfl, Nat.le_of_ble_eq_true rfl⟩) rfl hl.1 rfl (Nat.le_of_ble_eq_true rfl) dL_law_1010 ⟨Nat.le_of_ble_eq_true rfl, Nat.le_of_ble_eq_true rfl⟩ (fun rv_u_1 u_1 H locs hp hG => ?_)
  obtain ⟨rfl, hu_1⟩ := hp
  refine W.widen (k := 232) (n := 4986) (by decide) (by decide) ?_
  refine lv_istore (lv' := [(6, .int 1), (0, .ref b), (1, .ref N0), (2, .ref (N0 + 164)), (3, .ref (N0 + 229)), (4, .ref (N0 + 230)), (5, .int 0)]) S.1 S.2.1 dL_law_1013 hl (by decide) rfl (fun ls hl => ?_)
  refine lv_aload_n S.1 S.2.1 dL_law_1015 rfl (lv_at hl 3 rfl) ?_
  refine lv_aload_n S.1 S.2.1 dL_law_1016 rfl (lv_at hl 1 rfl) ?_
  refine lv_iload S.1 S.2.1 dL_law_1017 (lv_at hl 6 rfl) ?_
  refine lv_iconst (v := 1) S.1 S.2.1 dL_law_1019 (by decide) ?_
  refine lv_iadd S.1 S.2.1 dL_law_1020 ?_
  refine fx_topi (y := 1) (by decide) ?_
  refine gx_sld (v := a1) S hG hX hbl (fin_l (by decide)) hx1 dL_law_1021 ?_
  refine fx_cVi (As := [.int a1]) (rest := []) S hG (k544_X10_size g_a1_le_m1 (by omega) h1) h1 rfl (cwV 1 S.2.2.2.2 gL_law_X10_size rfl rfl rfl (by decide +kernel) ⟨Nat.le_of_ble_eq_true rfl, Nat.le_of_ble_eq_true rfl⟩) rfl hl.1 rfl (Nat.le_of_ble_eq_true rfl) dL_law_1022 ⟨Nat.le_of_ble_eq_true rfl, Nat.le_of_ble_eq_true rfl⟩ (fun rv_2 _ H locs hp hG => ?_)
  subst rv_2
  refine lv_istore (lv' := [(7, .int 0), (6, .int 1), (0, .ref b), (1, .ref N0), (2, .ref (N0 + 164)), (3, .ref (N0 + 229)), (4, .ref (N0 + 230)), (5, .int 0)]) S.1 S.2.1 dL_law_1025 hl (by decide) rfl (fun ls hl => ?_)
  refine lv_aload_n S.1 S.2.1 dL_law_1027 rfl (lv_at hl 4 rfl) ?_
  refine fx_cVi (As := []) (rest := []) S hG (k25_X10_thrown (by omega) fu_s) fu_s rfl (cwV 0 S.2.2.2.2 gL_law_X10_thrown rfl rfl rfl (by decide +kernel) ⟨Nat.le_of_ble_eq_true rfl, Nat.le_of_ble_eq_true rfl⟩) rfl hl.1 rfl (Nat.le_of_ble_eq_true rfl) dL_law_1028 ⟨Nat.le_of_ble_eq_true rfl, Nat.le_of_ble_eq_true rfl⟩ (fun rv_3 _ H locs hp hG => ?_)
  subst rv_3
  refine lv_iload S.1 S.2.1 dL_law_1031 (lv_at hl 1 rfl) ?_
  refine lv_icmp_eq (tgt := 1038) S.1 S.2.1 dL_law_1033 (by decide) (fun _ => ?_) (fun c => absurd (by decide) c)
  refine lv_iload S.1 S.2.1 dL_law_1038 (lv_at hl 1 rfl) ?_
  refine lv_if_ne (tgt := 1055) S.1 S.2.1 dL_law_1040 (by decide) (fun _ => ?_) (fun c => absurd c (by decide))
  refine lv_goto (tgt := 2650) S.1 S.2.1 dL_law_1055 (by decide) ?_
  refine lv_iinc (v := 5) (lv' := [(5, .int 5), (7, .int 0), (6, .int 1), (0, .ref b), (1, .ref N0), (2, .ref (N0 + 164)), (3, .ref (N0 + 229)), (4, .ref (N0 + 230))]) S.1 S.2.1 dL_law_2650 hl (k := 7) rfl (by decide) (by decide) rfl (fun ls hl => ?_)
  refine lv_goto (tgt := 28) S.1 S.2.1 dL_law_2653 (by decide) ?_
  refine lv_iload S.1 S.2.1 dL_law_28 (lv_at hl 0 rfl) ?_
  refine lv_aload_n S.1 S.2.1 dL_law_30 rfl (lv_at hl 3 rfl) ?_
  refine gx_slen (v := 5) S hG hX hbl rfl dL_law_31 ?_
  refine lv_iconst (v := 5) S.1 S.2.1 dL_law_32 (by decide) ?_
  refine lv_isub S.1 S.2.1 dL_law_33 ?_
  refine fx_topi (y := 0) (by decide) ?_
  refine lv_icmp_gt (tgt := 2656) S.1 S.2.1 dL_law_34 (by decide) (fun _ => ?_) (fun c => absurd (by decide) c)
  refine lv_iconst (v := 1) S.1 S.2.1 dL_law_2656 (by decide) ?_
  refine va_forget (fun q hq => by rw [hN]; exact hG.2.1.2.2 q hq) ?_
  refine W.widen (k := 600002) (n := 7302232) (by decide) (by decide) ?_
  exact lw_ret (d0 := s.drawn) (Drawn.sameBut.refl _ _) S.1 S.2.1 hr hlocks dL_law_2657
theorem l12_1 {p : Program} {e : Env} {s : State} {m : MethodId} {below : List Frame} {meth : Method} {c : Code} {b : Nat} {xs : Nat → Int32} {H : Heap} {locs : List Loc} {ls : Array Slot} {n : Nat} {a2 a3 a4 : Int32} (S : CallFix p m c cL_law 9 s #[.ref b] wsL_law "TreeDifferLaw") (hr : meth.sig.returnType = ret) (hlocks : meth.locks = false) (hst : l.stackTraces = false) (hX : va_X b 5 xs s s.heap) (hbl : b < s.heap.size ∧ b < N0) (hN : s.heap.size = N0) (hn : N0 + 231 ≤ n) (hx1 : xs 1 = 0) (hx2 : xs 2 = a2) (hx3 : xs 3 = a3) (hx4 : xs 4 = a4) (h0 : F N0 = some (.inr (9, [.ref (N0 + 1), .ref (N0 + 2), .ref (N0 + 11), .ref (N0 + 13), .ref (N0 + 63), .ref (N0 + 65), .ref (N0 + 85), .int (-1), .int (-1), .int 32]))) (h1 : F (N0 + 1) = some (.inl (cTr, 3, .inr (.inr (.inr (.inr (va_up (va_up (va_up (fun _ => none) 0 (some (N0 + 143))) 1 (some (N0 + 150))) 2 (some (N0 + 157))))))))) (h2 : F (N0 + 143) = some (.inr (7, [.ref (N0 + 144), .ref (N0 + 145), .ref (N0 + 146), .ref (N0 + 147), .ref (N0 + 148), .ref (N0 + 149), .int 1]))) (h3 : F (N0 + 229) = some (.inl (cL, 1, .inr (.inl (fun _ => 0))))) (h4 : F (N0 + 164) = some (.inr (12, [.ref (N0 + 165), .int 0, .ref (N0 + 181), .int 0, .int 0, .int 0, .int (-1), .ref (ql 24), .ref (N0 + 182), .ref (N0 + 187), .ref (N0 + 208), .ref (N0 + 209), .ref (N0 + 210), .ref (N0 + 211), .ref (N0 + 212), .int 0, .ref (N0 + 213), .ref (N0 + 218), .ref (N0 + 223), .ref (N0 + 224), .ref (N0 + 225), .ref (N0 + 226), .ref (N0 + 227), .int 0, .int 0, .ref (N0 + 228), .null, .int (-1), .int 0, .int 0, .int 0]))) (h5 : F (N0 + 165) = some (.inl (cTm, 3, .inr (.inr (.inr (.inr (va_up (va_up (va_up (fun _ => none) 0 (some (N0 + 166))) 1 (some (N0 + 171))) 2 (some (N0 + 176))))))))) (h6 : F (N0 + 166) = some (.inr (11, [.ref (N0 + 167), .ref (N0 + 168), .ref (N0 + 169), .ref (N0 + 170), .int 1]))) (hG : fG N0 D vwCl (fty cI cC cL cD cII cTr cTm cIt cB) (fen ql) s F n H locs) (hl : lv_has ls 9 [(0, .ref b), (1, .ref N0), (2, .ref (N0 + 164)), (3, .ref (N0 + 229)), (4, .ref (N0 + 230)), (5, .int 0)]) : W p l e { frames := 2048, cells := 600002, slots := 7302232, locals := 84000 } s m #[.ref b] below meth c H locs 231 4980 (lw_Z below #[.ref b] s) (F0 m 1002 ls []) := by
  have lt_h0 := hG.1.lt h0
  have lt_h1 := hG.1.lt h1
  have lt_h2 := hG.1.lt h2
  have lt_h3 := hG.1.lt h3
  have lt_h4 := hG.1.lt h4
  have lt_h5 := hG.1.lt h5
  have lt_h6 := hG.1.lt h6
  refine lv_aload_n S.1 S.2.1 dL_law_1002 rfl (lv_at hl 1 rfl) ?_
  refine lv_aload_n S.1 S.2.1 dL_law_1003 rfl (lv_at hl 0 rfl) ?_
  refine lv_iload S.1 S.2.1 dL_law_1004 (lv_at hl 5 rfl) ?_
  refine lv_iconst (v := 1) S.1 S.2.1 dL_law_1006 (by decide) ?_
  refine lv_iadd S.1 S.2.1 dL_law_1007 ?_
  refine fx_topi (y := 1) (by decide) ?_
  refine gx_sld (v := 0) S hG hX hbl (fin_l (by decide)) hx1 dL_law_1008 ?_
  refine lv_aload_n S.1 S.2.1 dL_law_1009 rfl (lv_at hl 3 rfl) ?_
  refine fx_cTi (As := [.ref N0, .int 0, .ref (N0 + 229)]) (rest := []) S hG (k546_L_size (by omega) h0 h1 h2 h3) (vx_cwSW 3 S.2.2.2.2 gL_law_L_size rfl rfl rfl (by decide +kernel) ⟨Nat.le_of_ble_eq_true rfl, Nat.le_of_ble_eq_true rfl⟩) rfl hl.1 rfl (Nat.le_of_ble_eq_true rfl) dL_law_1010 ⟨Nat.le_of_ble_eq_true rfl, Nat.le_of_ble_eq_true rfl⟩ (fun rv_1 _ H locs hp hG => ?_)
  subst rv_1
  refine lv_istore (lv' := [(6, .int 0), (0, .ref b), (1, .ref N0), (2, .ref (N0 + 164)), (3, .ref (N0 + 229)), (4, .ref (N0 + 230)), (5, .int 0)]) S.1 S.2.1 dL_law_1013 hl (by decide) rfl (fun ls hl => ?_)
  refine lv_aload_n S.1 S.2.1 dL_law_1015 rfl (lv_at hl 3 rfl) ?_
  refine lv_aload_n S.1 S.2.1 dL_law_1016 rfl (lv_at hl 1 rfl) ?_
  refine lv_iload S.1 S.2.1 dL_law_1017 (lv_at hl 6 rfl) ?_
  refine lv_iconst (v := 1) S.1 S.2.1 dL_law_1019 (by decide) ?_
  refine lv_iadd S.1 S.2.1 dL_law_1020 ?_
  refine fx_topi (y := 1) (by decide) ?_
  refine gx_sld (v := 0) S hG hX hbl (fin_l (by decide)) hx1 dL_law_1021 ?_
  refine fx_cVi (As := [.int 0]) (rest := []) S hG (k547_X10_size (by omega) (fu_at (by omega) h4) (fu_at (by omega) h5) (fu_at (by omega) h6)) (fu_at (by omega) h4) rfl (cwV 1 S.2.2.2.2 gL_law_X10_size rfl rfl rfl (by decide +kernel) ⟨Nat.le_of_ble_eq_true rfl, Nat.le_of_ble_eq_true rfl⟩) rfl hl.1 rfl (Nat.le_of_ble_eq_true rfl) dL_law_1022 ⟨Nat.le_of_ble_eq_true rfl, Nat.le_of_ble_eq_true rfl⟩ (fun rv_2 _ H locs hp hG => ?_)
  subst rv_2
  refine lv_istore (lv' := [(7, .int 1), (6, .int 0), (0, .ref b), (1, .ref N0), (2, .ref (N0 + 164)), (3, .ref (N0 + 229)), (4, .ref (N0 + 230)), (5, .int 0)]) S.1 S.2.1 dL_law_1025 hl (by decide) rfl (fun ls hl => ?_)
  refine lv_aload_n S.1 S.2.1 dL_law_1027 rfl (lv_at hl 4 rfl) ?_
  refine fx_cVi (As := []) (rest := []) S hG (k117_X10_thrown (by omega) fu_s) fu_s rfl (cwV 0 S.2.2.2.2 gL_law_X10_thrown rfl rfl rfl (by decide +kernel) ⟨Nat.le_of_ble_eq_true rfl, Nat.le_of_ble_eq_true rfl⟩) rfl hl.1 rfl (Nat.le_of_ble_eq_true rfl) dL_law_1028 ⟨Nat.le_of_ble_eq_true rfl, Nat.le_of_ble_eq_true rfl⟩ (fun rv_3 _ H locs hp hG => ?_)
  subst rv_3
  refine lv_iload S.1 S.2.1 dL_law_1031 (lv_at hl 1 rfl) ?_
  refine lv_icmp_eq (tgt := 1038) S.1 S.2.1 dL_law_1033 (by decide) (fun _ => ?_) (fun c => absurd (by decide) c)
  refine lv_iload S.1 S.2.1 dL_law_1038 (lv_at hl 1 rfl) ?_
  refine lv_if_ne (tgt := 1055) S.1 S.2.1 dL_law_1040 (by decide) (fun c => absurd (by decide) c) (fun _ => ?_)
  refine lv_aload_n S.1 S.2.1 dL_law_1043 rfl (lv_at hl 5 rfl) ?_
  refine lv_iconst (v := 0) S.1 S.2.1 dL_law_1044 (by decide) ?_
  refine gx_lald (v := 1) S hG 2 (fu_at (by omega) fu_s) rfl (fin_l (by decide)) rfl dL_law_1045 ?_
  refine lv_iload S.1 S.2.1 dL_law_1046 (lv_at hl 0 rfl) ?_
  refine lv_i2l (v := 1) S.1 S.2.1 dL_law_1048 (by decide) ?_
  refine gx_lcmpEq S rfl dL_law_1049 ?_
  refine lv_if_eq (tgt := 1055) S.1 S.2.1 dL_law_1050 (by decide) (fun _ => ?_) (fun c => absurd (by decide) c)
  refine lv_goto (tgt := 2650) S.1 S.2.1 dL_law_1055 (by decide) ?_
  refine lv_iinc (v := 5) (lv' := [(5, .int 5), (7, .int 1), (6, .int 0), (0, .ref b), (1, .ref N0), (2, .ref (N0 + 164)), (3, .ref (N0 + 229)), (4, .ref (N0 + 230))]) S.1 S.2.1 dL_law_2650 hl (k := 7) rfl (by decide) (by decide) rfl (fun ls hl => ?_)
  refine lv_goto (tgt := 28) S.1 S.2.1 dL_law_2653 (by decide) ?_
  refine lv_iload S.1 S.2.1 dL_law_28 (lv_at hl 0 rfl) ?_
  refine lv_aload_n S.1 S.2.1 dL_law_30 rfl (lv_at hl 3 rfl) ?_
  refine gx_slen (v := 5) S hG hX hbl rfl dL_law_31 ?_
  refine lv_iconst (v := 5) S.1 S.2.1 dL_law_32 (by decide) ?_
  refine lv_isub S.1 S.2.1 dL_law_33 ?_
  refine fx_topi (y := 0) (by decide) ?_
  refine lv_icmp_gt (tgt := 2656) S.1 S.2.1 dL_law_34 (by decide) (fun _ => ?_) (fun c => absurd (by decide) c)
  refine lv_iconst (v := 1) S.1 S.2.1 dL_law_2656 (by decide) ?_
  refine va_forget (fun q hq => by rw [hN]; exact hG.2.1.2.2 q hq) ?_
  refine W.widen (k := 600002) (n := 7302232) (by decide) (by decide) ?_
  exact lw_ret (d0 := s.drawn) (Drawn.sameBut.refl _ _) S.1 S.2.1 hr hlocks dL_law_2657
theorem l12_2 {p : Program} {e : Env} {s : State} {m : MethodId} {below : List Frame} {meth : Method} {c : Code} {b : Nat} {xs : Nat → Int32} {H : Heap} {locs : List Loc} {ls : Array Slot} {n : Nat} {a2 a3 a4 : Int32} (S : CallFix p m c cL_law 9 s #[.ref b] wsL_law "TreeDifferLaw") (hr : meth.sig.returnType = ret) (hlocks : meth.locks = false) (hst : l.stackTraces = false) (hX : va_X b 5 xs s s.heap) (hbl : b < s.heap.size ∧ b < N0) (hN : s.heap.size = N0) (hn : N0 + 231 ≤ n) (hx1 : xs 1 = 1) (hx2 : xs 2 = a2) (hx3 : xs 3 = a3) (hx4 : xs 4 = a4) (h0 : F N0 = some (.inr (9, [.ref (N0 + 1), .ref (N0 + 2), .ref (N0 + 11), .ref (N0 + 13), .ref (N0 + 63), .ref (N0 + 65), .ref (N0 + 85), .int (-1), .int (-1), .int 32]))) (h1 : F (N0 + 1) = some (.inl (cTr, 3, .inr (.inr (.inr (.inr (va_up (va_up (va_up (fun _ => none) 0 (some (N0 + 143))) 1 (some (N0 + 150))) 2 (some (N0 + 157))))))))) (h2 : F (N0 + 150) = some (.inr (7, [.ref (N0 + 151), .ref (N0 + 152), .ref (N0 + 153), .ref (N0 + 154), .ref (N0 + 155), .ref (N0 + 156), .int 1]))) (h3 : F (N0 + 229) = some (.inl (cL, 1, .inr (.inl (fun _ => 0))))) (h4 : F (N0 + 164) = some (.inr (12, [.ref (N0 + 165), .int 0, .ref (N0 + 181), .int 0, .int 0, .int 0, .int (-1), .ref (ql 24), .ref (N0 + 182), .ref (N0 + 187), .ref (N0 + 208), .ref (N0 + 209), .ref (N0 + 210), .ref (N0 + 211), .ref (N0 + 212), .int 0, .ref (N0 + 213), .ref (N0 + 218), .ref (N0 + 223), .ref (N0 + 224), .ref (N0 + 225), .ref (N0 + 226), .ref (N0 + 227), .int 0, .int 0, .ref (N0 + 228), .null, .int (-1), .int 0, .int 0, .int 0]))) (h5 : F (N0 + 165) = some (.inl (cTm, 3, .inr (.inr (.inr (.inr (va_up (va_up (va_up (fun _ => none) 0 (some (N0 + 166))) 1 (some (N0 + 171))) 2 (some (N0 + 176))))))))) (h6 : F (N0 + 171) = some (.inr (11, [.ref (N0 + 172), .ref (N0 + 173), .ref (N0 + 174), .ref (N0 + 175), .int 1]))) (hG : fG N0 D vwCl (fty cI cC cL cD cII cTr cTm cIt cB) (fen ql) s F n H locs) (hl : lv_has ls 9 [(0, .ref b), (1, .ref N0), (2, .ref (N0 + 164)), (3, .ref (N0 + 229)), (4, .ref (N0 + 230)), (5, .int 0)]) : W p l e { frames := 2048, cells := 600002, slots := 7302232, locals := 84000 } s m #[.ref b] below meth c H locs 231 4980 (lw_Z below #[.ref b] s) (F0 m 1002 ls []) := by
  have lt_h0 := hG.1.lt h0
  have lt_h1 := hG.1.lt h1
  have lt_h2 := hG.1.lt h2
  have lt_h3 := hG.1.lt h3
  have lt_h4 := hG.1.lt h4
  have lt_h5 := hG.1.lt h5
  have lt_h6 := hG.1.lt h6
  refine lv_aload_n S.1 S.2.1 dL_law_1002 rfl (lv_at hl 1 rfl) ?_
  refine lv_aload_n S.1 S.2.1 dL_law_1003 rfl (lv_at hl 0 rfl) ?_
  refine lv_iload S.1 S.2.1 dL_law_1004 (lv_at hl 5 rfl) ?_
  refine lv_iconst (v := 1) S.1 S.2.1 dL_law_1006 (by decide) ?_
  refine lv_iadd S.1 S.2.1 dL_law_1007 ?_
  refine fx_topi (y := 1) (by decide) ?_
  refine gx_sld (v := 1) S hG hX hbl (fin_l (by decide)) hx1 dL_law_1008 ?_
  refine lv_aload_n S.1 S.2.1 dL_law_1009 rfl (lv_at hl 3 rfl) ?_
  refine fx_cTi (As := [.ref N0, .int 1, .ref (N0 + 229)]) (rest := []) S hG (k549_L_size (by omega) h0 h1 h2 h3) (vx_cwSW 3 S.2.2.2.2 gL_law_L_size rfl rfl rfl (by decide +kernel) ⟨Nat.le_of_ble_eq_true rfl, Nat.le_of_ble_eq_true rfl⟩) rfl hl.1 rfl (Nat.le_of_ble_eq_true rfl) dL_law_1010 ⟨Nat.le_of_ble_eq_true rfl, Nat.le_of_ble_eq_true rfl⟩ (fun rv_1 _ H locs hp hG => ?_)
  subst rv_1
  refine lv_istore (lv' := [(6, .int 0), (0, .ref b), (1, .ref N0), (2, .ref (N0 + 164)), (3, .ref (N0 + 229)), (4, .ref (N0 + 230)), (5, .int 0)]) S.1 S.2.1 dL_law_1013 hl (by decide) rfl (fun ls hl => ?_)
  refine lv_aload_n S.1 S.2.1 dL_law_1015 rfl (lv_at hl 3 rfl) ?_
  refine lv_aload_n S.1 S.2.1 dL_law_1016 rfl (lv_at hl 1 rfl) ?_
  refine lv_iload S.1 S.2.1 dL_law_1017 (lv_at hl 6 rfl) ?_
  refine lv_iconst (v := 1) S.1 S.2.1 dL_law_1019 (by decide) ?_
  refine lv_iadd S.1 S.2.1 dL_law_1020 ?_
  refine fx_topi (y := 1) (by decide) ?_
  refine gx_sld (v := 1) S hG hX hbl (fin_l (by decide)) hx1 dL_law_1021 ?_
  refine fx_cVi (As := [.int 1]) (rest := []) S hG (k550_X10_size (by omega) (fu_at (by omega) h4) (fu_at (by omega) h5) (fu_at (by omega) h6)) (fu_at (by omega) h4) rfl (cwV 1 S.2.2.2.2 gL_law_X10_size rfl rfl rfl (by decide +kernel) ⟨Nat.le_of_ble_eq_true rfl, Nat.le_of_ble_eq_true rfl⟩) rfl hl.1 rfl (Nat.le_of_ble_eq_true rfl) dL_law_1022 ⟨Nat.le_of_ble_eq_true rfl, Nat.le_of_ble_eq_true rfl⟩ (fun rv_2 _ H locs hp hG => ?_)
  subst rv_2
  refine lv_istore (lv' := [(7, .int 1), (6, .int 0), (0, .ref b), (1, .ref N0), (2, .ref (N0 + 164)), (3, .ref (N0 + 229)), (4, .ref (N0 + 230)), (5, .int 0)]) S.1 S.2.1 dL_law_1025 hl (by decide) rfl (fun ls hl => ?_)
  refine lv_aload_n S.1 S.2.1 dL_law_1027 rfl (lv_at hl 4 rfl) ?_
  refine fx_cVi (As := []) (rest := []) S hG (k117_X10_thrown (by omega) fu_s) fu_s rfl (cwV 0 S.2.2.2.2 gL_law_X10_thrown rfl rfl rfl (by decide +kernel) ⟨Nat.le_of_ble_eq_true rfl, Nat.le_of_ble_eq_true rfl⟩) rfl hl.1 rfl (Nat.le_of_ble_eq_true rfl) dL_law_1028 ⟨Nat.le_of_ble_eq_true rfl, Nat.le_of_ble_eq_true rfl⟩ (fun rv_3 _ H locs hp hG => ?_)
  subst rv_3
  refine lv_iload S.1 S.2.1 dL_law_1031 (lv_at hl 1 rfl) ?_
  refine lv_icmp_eq (tgt := 1038) S.1 S.2.1 dL_law_1033 (by decide) (fun _ => ?_) (fun c => absurd (by decide) c)
  refine lv_iload S.1 S.2.1 dL_law_1038 (lv_at hl 1 rfl) ?_
  refine lv_if_ne (tgt := 1055) S.1 S.2.1 dL_law_1040 (by decide) (fun c => absurd (by decide) c) (fun _ => ?_)
  refine lv_aload_n S.1 S.2.1 dL_law_1043 rfl (lv_at hl 5 rfl) ?_
  refine lv_iconst (v := 0) S.1 S.2.1 dL_law_1044 (by decide) ?_
  refine gx_lald (v := 1) S hG 2 (fu_at (by omega) fu_s) rfl (fin_l (by decide)) rfl dL_law_1045 ?_
  refine lv_iload S.1 S.2.1 dL_law_1046 (lv_at hl 0 rfl) ?_
  refine lv_i2l (v := 1) S.1 S.2.1 dL_law_1048 (by decide) ?_
  refine gx_lcmpEq S rfl dL_law_1049 ?_
  refine lv_if_eq (tgt := 1055) S.1 S.2.1 dL_law_1050 (by decide) (fun _ => ?_) (fun c => absurd (by decide) c)
  refine lv_goto (tgt := 2650) S.1 S.2.1 dL_law_1055 (by decide) ?_
  refine lv_iinc (v := 5) (lv' := [(5, .int 5), (7, .int 1), (6, .int 0), (0, .ref b), (1, .ref N0), (2, .ref (N0 + 164)), (3, .ref (N0 + 229)), (4, .ref (N0 + 230))]) S.1 S.2.1 dL_law_2650 hl (k := 7) rfl (by decide) (by decide) rfl (fun ls hl => ?_)
  refine lv_goto (tgt := 28) S.1 S.2.1 dL_law_2653 (by decide) ?_
  refine lv_iload S.1 S.2.1 dL_law_28 (lv_at hl 0 rfl) ?_
  refine lv_aload_n S.1 S.2.1 dL_law_30 rfl (lv_at hl 3 rfl) ?_
  refine gx_slen (v := 5) S hG hX hbl rfl dL_law_31 ?_
  refine lv_iconst (v := 5) S.1 S.2.1 dL_law_32 (by decide) ?_
  refine lv_isub S.1 S.2.1 dL_law_33 ?_
  refine fx_topi (y := 0) (by decide) ?_
  refine lv_icmp_gt (tgt := 2656) S.1 S.2.1 dL_law_34 (by decide) (fun _ => ?_) (fun c => absurd (by decide) c)
  refine lv_iconst (v := 1) S.1 S.2.1 dL_law_2656 (by decide) ?_
  refine va_forget (fun q hq => by rw [hN]; exact hG.2.1.2.2 q hq) ?_
  refine W.widen (k := 600002) (n := 7302232) (by decide) (by decide) ?_
  exact lw_ret (d0 := s.drawn) (Drawn.sameBut.refl _ _) S.1 S.2.1 hr hlocks dL_law_2657
theorem l12_3 {p : Program} {e : Env} {s : State} {m : MethodId} {below : List Frame} {meth : Method} {c : Code} {b : Nat} {xs : Nat → Int32} {H : Heap} {locs : List Loc} {ls : Array Slot} {n : Nat} {a2 a3 a4 : Int32} (S : CallFix p m c cL_law 9 s #[.ref b] wsL_law "TreeDifferLaw") (hr : meth.sig.returnType = ret) (hlocks : meth.locks = false) (hst : l.stackTraces = false) (hX : va_X b 5 xs s s.heap) (hbl : b < s.heap.size ∧ b < N0) (hN : s.heap.size = N0) (hn : N0 + 231 ≤ n) (hx1 : xs 1 = 2) (hx2 : xs 2 = a2) (hx3 : xs 3 = a3) (hx4 : xs 4 = a4) (h0 : F N0 = some (.inr (9, [.ref (N0 + 1), .ref (N0 + 2), .ref (N0 + 11), .ref (N0 + 13), .ref (N0 + 63), .ref (N0 + 65), .ref (N0 + 85), .int (-1), .int (-1), .int 32]))) (h1 : F (N0 + 1) = some (.inl (cTr, 3, .inr (.inr (.inr (.inr (va_up (va_up (va_up (fun _ => none) 0 (some (N0 + 143))) 1 (some (N0 + 150))) 2 (some (N0 + 157))))))))) (h2 : F (N0 + 157) = some (.inr (7, [.ref (N0 + 158), .ref (N0 + 159), .ref (N0 + 160), .ref (N0 + 161), .ref (N0 + 162), .ref (N0 + 163), .int 1]))) (h3 : F (N0 + 229) = some (.inl (cL, 1, .inr (.inl (fun _ => 0))))) (h4 : F (N0 + 164) = some (.inr (12, [.ref (N0 + 165), .int 0, .ref (N0 + 181), .int 0, .int 0, .int 0, .int (-1), .ref (ql 24), .ref (N0 + 182), .ref (N0 + 187), .ref (N0 + 208), .ref (N0 + 209), .ref (N0 + 210), .ref (N0 + 211), .ref (N0 + 212), .int 0, .ref (N0 + 213), .ref (N0 + 218), .ref (N0 + 223), .ref (N0 + 224), .ref (N0 + 225), .ref (N0 + 226), .ref (N0 + 227), .int 0, .int 0, .ref (N0 + 228), .null, .int (-1), .int 0, .int 0, .int 0]))) (h5 : F (N0 + 165) = some (.inl (cTm, 3, .inr (.inr (.inr (.inr (va_up (va_up (va_up (fun _ => none) 0 (some (N0 + 166))) 1 (some (N0 + 171))) 2 (some (N0 + 176))))))))) (h6 : F (N0 + 176) = some (.inr (11, [.ref (N0 + 177), .ref (N0 + 178), .ref (N0 + 179), .ref (N0 + 180), .int 1]))) (hG : fG N0 D vwCl (fty cI cC cL cD cII cTr cTm cIt cB) (fen ql) s F n H locs) (hl : lv_has ls 9 [(0, .ref b), (1, .ref N0), (2, .ref (N0 + 164)), (3, .ref (N0 + 229)), (4, .ref (N0 + 230)), (5, .int 0)]) : W p l e { frames := 2048, cells := 600002, slots := 7302232, locals := 84000 } s m #[.ref b] below meth c H locs 231 4980 (lw_Z below #[.ref b] s) (F0 m 1002 ls []) := by
  have lt_h0 := hG.1.lt h0
  have lt_h1 := hG.1.lt h1
  have lt_h2 := hG.1.lt h2
  have lt_h3 := hG.1.lt h3
  have lt_h4 := hG.1.lt h4
  have lt_h5 := hG.1.lt h5
  have lt_h6 := hG.1.lt h6
  refine lv_aload_n S.1 S.2.1 dL_law_1002 rfl (lv_at hl 1 rfl) ?_
  refine lv_aload_n S.1 S.2.1 dL_law_1003 rfl (lv_at hl 0 rfl) ?_
  refine lv_iload S.1 S.2.1 dL_law_1004 (lv_at hl 5 rfl) ?_
  refine lv_iconst (v := 1) S.1 S.2.1 dL_law_1006 (by decide) ?_
  refine lv_iadd S.1 S.2.1 dL_law_1007 ?_
  refine fx_topi (y := 1) (by decide) ?_
  refine gx_sld (v := 2) S hG hX hbl (fin_l (by decide)) hx1 dL_law_1008 ?_
  refine lv_aload_n S.1 S.2.1 dL_law_1009 rfl (lv_at hl 3 rfl) ?_
  refine fx_cTi (As := [.ref N0, .int 2, .ref (N0 + 229)]) (rest := []) S hG (k552_L_size (by omega) h0 h1 h2 h3) (vx_cwSW 3 S.2.2.2.2 gL_law_L_size rfl rfl rfl (by decide +kernel) ⟨Nat.le_of_ble_eq_true rfl, Nat.le_of_ble_eq_true rfl⟩) rfl hl.1 rfl (Nat.le_of_ble_eq_true rfl) dL_law_1010 ⟨Nat.le_of_ble_eq_true rfl, Nat.le_of_ble_eq_true rfl⟩ (fun rv_1 _ H locs hp hG => ?_)
  subst rv_1
  refine lv_istore (lv' := [(6, .int 0), (0, .ref b), (1, .ref N0), (2, .ref (N0 + 164)), (3, .ref (N0 + 229)), (4, .ref (N0 + 230)), (5, .int 0)]) S.1 S.2.1 dL_law_1013 hl (by decide) rfl (fun ls hl => ?_)
  refine lv_aload_n S.1 S.2.1 dL_law_1015 rfl (lv_at hl 3 rfl) ?_
  refine lv_aload_n S.1 S.2.1 dL_law_1016 rfl (lv_at hl 1 rfl) ?_
  refine lv_iload S.1 S.2.1 dL_law_1017 (lv_at hl 6 rfl) ?_
  refine lv_iconst (v := 1) S.1 S.2.1 dL_law_1019 (by decide) ?_
  refine lv_iadd S.1 S.2.1 dL_law_1020 ?_
  refine fx_topi (y := 1) (by decide) ?_
  refine gx_sld (v := 2) S hG hX hbl (fin_l (by decide)) hx1 dL_law_1021 ?_
  refine fx_cVi (As := [.int 2]) (rest := []) S hG (k553_X10_size (by omega) (fu_at (by omega) h4) (fu_at (by omega) h5) (fu_at (by omega) h6)) (fu_at (by omega) h4) rfl (cwV 1 S.2.2.2.2 gL_law_X10_size rfl rfl rfl (by decide +kernel) ⟨Nat.le_of_ble_eq_true rfl, Nat.le_of_ble_eq_true rfl⟩) rfl hl.1 rfl (Nat.le_of_ble_eq_true rfl) dL_law_1022 ⟨Nat.le_of_ble_eq_true rfl, Nat.le_of_ble_eq_true rfl⟩ (fun rv_2 _ H locs hp hG => ?_)
  subst rv_2
  refine lv_istore (lv' := [(7, .int 1), (6, .int 0), (0, .ref b), (1, .ref N0), (2, .ref (N0 + 164)), (3, .ref (N0 + 229)), (4, .ref (N0 + 230)), (5, .int 0)]) S.1 S.2.1 dL_law_1025 hl (by decide) rfl (fun ls hl => ?_)
  refine lv_aload_n S.1 S.2.1 dL_law_1027 rfl (lv_at hl 4 rfl) ?_
  refine fx_cVi (As := []) (rest := []) S hG (k117_X10_thrown (by omega) fu_s) fu_s rfl (cwV 0 S.2.2.2.2 gL_law_X10_thrown rfl rfl rfl (by decide +kernel) ⟨Nat.le_of_ble_eq_true rfl, Nat.le_of_ble_eq_true rfl⟩) rfl hl.1 rfl (Nat.le_of_ble_eq_true rfl) dL_law_1028 ⟨Nat.le_of_ble_eq_true rfl, Nat.le_of_ble_eq_true rfl⟩ (fun rv_3 _ H locs hp hG => ?_)
  subst rv_3
  refine lv_iload S.1 S.2.1 dL_law_1031 (lv_at hl 1 rfl) ?_
  refine lv_icmp_eq (tgt := 1038) S.1 S.2.1 dL_law_1033 (by decide) (fun _ => ?_) (fun c => absurd (by decide) c)
  refine lv_iload S.1 S.2.1 dL_law_1038 (lv_at hl 1 rfl) ?_
  refine lv_if_ne (tgt := 1055) S.1 S.2.1 dL_law_1040 (by decide) (fun c => absurd (by decide) c) (fun _ => ?_)
  refine lv_aload_n S.1 S.2.1 dL_law_1043 rfl (lv_at hl 5 rfl) ?_
  refine lv_iconst (v := 0) S.1 S.2.1 dL_law_1044 (by decide) ?_
  refine gx_lald (v := 1) S hG 2 (fu_at (by omega) fu_s) rfl (fin_l (by decide)) rfl dL_law_1045 ?_
  refine lv_iload S.1 S.2.1 dL_law_1046 (lv_at hl 0 rfl) ?_
  refine lv_i2l (v := 1) S.1 S.2.1 dL_law_1048 (by decide) ?_
  refine gx_lcmpEq S rfl dL_law_1049 ?_
  refine lv_if_eq (tgt := 1055) S.1 S.2.1 dL_law_1050 (by decide) (fun _ => ?_) (fun c => absurd (by decide) c)
  refine lv_goto (tgt := 2650) S.1 S.2.1 dL_law_1055 (by decide) ?_
  refine lv_iinc (v := 5) (lv' := [(5, .int 5), (7, .int 1), (6, .int 0), (0, .ref b), (1, .ref N0), (2, .ref (N0 + 164)), (3, .ref (N0 + 229)), (4, .ref (N0 + 230))]) S.1 S.2.1 dL_law_2650 hl (k := 7) rfl (by decide) (by decide) rfl (fun ls hl => ?_)
  refine lv_goto (tgt := 28) S.1 S.2.1 dL_law_2653 (by decide) ?_
  refine lv_iload S.1 S.2.1 dL_law_28 (lv_at hl 0 rfl) ?_
  refine lv_aload_n S.1 S.2.1 dL_law_30 rfl (lv_at hl 3 rfl) ?_
  refine gx_slen (v := 5) S hG hX hbl rfl dL_law_31 ?_
  refine lv_iconst (v := 5) S.1 S.2.1 dL_law_32 (by decide) ?_
  refine lv_isub S.1 S.2.1 dL_law_33 ?_
  refine fx_topi (y := 0) (by decide) ?_
  refine lv_icmp_gt (tgt := 2656) S.1 S.2.1 dL_law_34 (by decide) (fun _ => ?_) (fun c => absurd (by decide) c)
  refine lv_iconst (v := 1) S.1 S.2.1 dL_law_2656 (by decide) ?_
  refine va_forget (fun q hq => by rw [hN]; exact hG.2.1.2.2 q hq) ?_
  refine W.widen (k := 600002) (n := 7302232) (by decide) (by decide) ?_
  exact lw_ret (d0 := s.drawn) (Drawn.sameBut.refl _ _) S.1 S.2.1 hr hlocks dL_law_2657
theorem l12_4 {p : Program} {e : Env} {s : State} {m : MethodId} {below : List Frame} {meth : Method} {c : Code} {b : Nat} {xs : Nat → Int32} {H : Heap} {locs : List Loc} {ls : Array Slot} {n : Nat} {a1 a2 a3 a4 : Int32} (g_a1_ge_3 : 3 ≤ a1) (S : CallFix p m c cL_law 9 s #[.ref b] wsL_law "TreeDifferLaw") (hr : meth.sig.returnType = ret) (hlocks : meth.locks = false) (hst : l.stackTraces = false) (hX : va_X b 5 xs s s.heap) (hbl : b < s.heap.size ∧ b < N0) (hN : s.heap.size = N0) (hn : N0 + 231 ≤ n) (hx1 : xs 1 = a1) (hx2 : xs 2 = a2) (hx3 : xs 3 = a3) (hx4 : xs 4 = a4) (h0 : F N0 = some (.inr (9, [.ref (N0 + 1), .ref (N0 + 2), .ref (N0 + 11), .ref (N0 + 13), .ref (N0 + 63), .ref (N0 + 65), .ref (N0 + 85), .int (-1), .int (-1), .int 32]))) (h1 : F (N0 + 164) = some (.inr (12, [.ref (N0 + 165), .int 0, .ref (N0 + 181), .int 0, .int 0, .int 0, .int (-1), .ref (ql 24), .ref (N0 + 182), .ref (N0 + 187), .ref (N0 + 208), .ref (N0 + 209), .ref (N0 + 210), .ref (N0 + 211), .ref (N0 + 212), .int 0, .ref (N0 + 213), .ref (N0 + 218), .ref (N0 + 223), .ref (N0 + 224), .ref (N0 + 225), .ref (N0 + 226), .ref (N0 + 227), .int 0, .int 0, .ref (N0 + 228), .null, .int (-1), .int 0, .int 0, .int 0]))) (hG : fG N0 D vwCl (fty cI cC cL cD cII cTr cTm cIt cB) (fen ql) s F n H locs) (hl : lv_has ls 9 [(0, .ref b), (1, .ref N0), (2, .ref (N0 + 164)), (3, .ref (N0 + 229)), (4, .ref (N0 + 230)), (5, .int 0)]) : W p l e { frames := 2048, cells := 600002, slots := 7302232, locals := 84000 } s m #[.ref b] below meth c H locs 231 4980 (lw_Z below #[.ref b] s) (F0 m 1002 ls []) := by
  have lt_h0 := hG.1.lt h0
  have lt_h1 := hG.1.lt h1
  refine lv_aload_n S.1 S.2.1 dL_law_1002 rfl (lv_at hl 1 rfl) ?_
  refine lv_aload_n S.1 S.2.1 dL_law_1003 rfl (lv_at hl 0 rfl) ?_
  refine lv_iload S.1 S.2.1 dL_law_1004 (lv_at hl 5 rfl) ?_
  refine lv_iconst (v := 1) S.1 S.2.1 dL_law_1006 (by decide) ?_
  refine lv_iadd S.1 S.2.1 dL_law_1007 ?_
  refine fx_topi (y := 1) (by decide) ?_
  refine gx_sld (v := a1) S hG hX hbl (fin_l (by decide)) hx1 dL_law_1008 ?_
  refine lv_aload_n S.1 S.2.1 dL_law_1009 rfl (lv_at hl 3 rfl) ?_
  refine fx_cTi (As := [.ref N0, .int a1, .ref (N0 + 229)]) (rest := []) S hG (k555_L_size g_a1_ge_3 hst (by omega) h0) (vx_cwSW 3 S.2.2.2.2 gL_law_L_size rfl rfl rfl (by decide +kernel) ⟨Nat.le_of_ble_eq_true rfl, Nat.le_of_ble_eq_true rfl⟩) rfl hl.1 rfl (Nat.le_of_ble_eq_true rfl) dL_law_1010 ⟨Nat.le_of_ble_eq_true rfl, Nat.le_of_ble_eq_true rfl⟩ (fun rv_u_1 u_1 H locs hp hG => ?_)
  obtain ⟨rfl, hu_1⟩ := hp
  refine W.widen (k := 232) (n := 4986) (by decide) (by decide) ?_
  refine lv_istore (lv' := [(6, .int 1), (0, .ref b), (1, .ref N0), (2, .ref (N0 + 164)), (3, .ref (N0 + 229)), (4, .ref (N0 + 230)), (5, .int 0)]) S.1 S.2.1 dL_law_1013 hl (by decide) rfl (fun ls hl => ?_)
  refine lv_aload_n S.1 S.2.1 dL_law_1015 rfl (lv_at hl 3 rfl) ?_
  refine lv_aload_n S.1 S.2.1 dL_law_1016 rfl (lv_at hl 1 rfl) ?_
  refine lv_iload S.1 S.2.1 dL_law_1017 (lv_at hl 6 rfl) ?_
  refine lv_iconst (v := 1) S.1 S.2.1 dL_law_1019 (by decide) ?_
  refine lv_iadd S.1 S.2.1 dL_law_1020 ?_
  refine fx_topi (y := 1) (by decide) ?_
  refine gx_sld (v := a1) S hG hX hbl (fin_l (by decide)) hx1 dL_law_1021 ?_
  refine fx_cVi (As := [.int a1]) (rest := []) S hG (k557_X10_size g_a1_ge_3 (by omega) h1) h1 rfl (cwV 1 S.2.2.2.2 gL_law_X10_size rfl rfl rfl (by decide +kernel) ⟨Nat.le_of_ble_eq_true rfl, Nat.le_of_ble_eq_true rfl⟩) rfl hl.1 rfl (Nat.le_of_ble_eq_true rfl) dL_law_1022 ⟨Nat.le_of_ble_eq_true rfl, Nat.le_of_ble_eq_true rfl⟩ (fun rv_2 _ H locs hp hG => ?_)
  subst rv_2
  refine lv_istore (lv' := [(7, .int 0), (6, .int 1), (0, .ref b), (1, .ref N0), (2, .ref (N0 + 164)), (3, .ref (N0 + 229)), (4, .ref (N0 + 230)), (5, .int 0)]) S.1 S.2.1 dL_law_1025 hl (by decide) rfl (fun ls hl => ?_)
  refine lv_aload_n S.1 S.2.1 dL_law_1027 rfl (lv_at hl 4 rfl) ?_
  refine fx_cVi (As := []) (rest := []) S hG (k25_X10_thrown (by omega) fu_s) fu_s rfl (cwV 0 S.2.2.2.2 gL_law_X10_thrown rfl rfl rfl (by decide +kernel) ⟨Nat.le_of_ble_eq_true rfl, Nat.le_of_ble_eq_true rfl⟩) rfl hl.1 rfl (Nat.le_of_ble_eq_true rfl) dL_law_1028 ⟨Nat.le_of_ble_eq_true rfl, Nat.le_of_ble_eq_true rfl⟩ (fun rv_3 _ H locs hp hG => ?_)
  subst rv_3
  refine lv_iload S.1 S.2.1 dL_law_1031 (lv_at hl 1 rfl) ?_
  refine lv_icmp_eq (tgt := 1038) S.1 S.2.1 dL_law_1033 (by decide) (fun _ => ?_) (fun c => absurd (by decide) c)
  refine lv_iload S.1 S.2.1 dL_law_1038 (lv_at hl 1 rfl) ?_
  refine lv_if_ne (tgt := 1055) S.1 S.2.1 dL_law_1040 (by decide) (fun _ => ?_) (fun c => absurd c (by decide))
  refine lv_goto (tgt := 2650) S.1 S.2.1 dL_law_1055 (by decide) ?_
  refine lv_iinc (v := 5) (lv' := [(5, .int 5), (7, .int 0), (6, .int 1), (0, .ref b), (1, .ref N0), (2, .ref (N0 + 164)), (3, .ref (N0 + 229)), (4, .ref (N0 + 230))]) S.1 S.2.1 dL_law_2650 hl (k := 7) rfl (by decide) (by decide) rfl (fun ls hl => ?_)
  refine lv_goto (tgt := 28) S.1 S.2.1 dL_law_2653 (by decide) ?_
  refine lv_iload S.1 S.2.1 dL_law_28 (lv_at hl 0 rfl) ?_
  refine lv_aload_n S.1 S.2.1 dL_law_30 rfl (lv_at hl 3 rfl) ?_
  refine gx_slen (v := 5) S hG hX hbl rfl dL_law_31 ?_
  refine lv_iconst (v := 5) S.1 S.2.1 dL_law_32 (by decide) ?_
  refine lv_isub S.1 S.2.1 dL_law_33 ?_
  refine fx_topi (y := 0) (by decide) ?_
  refine lv_icmp_gt (tgt := 2656) S.1 S.2.1 dL_law_34 (by decide) (fun _ => ?_) (fun c => absurd (by decide) c)
  refine lv_iconst (v := 1) S.1 S.2.1 dL_law_2656 (by decide) ?_
  refine va_forget (fun q hq => by rw [hN]; exact hG.2.1.2.2 q hq) ?_
  refine W.widen (k := 600002) (n := 7302232) (by decide) (by decide) ?_
  exact lw_ret (d0 := s.drawn) (Drawn.sameBut.refl _ _) S.1 S.2.1 hr hlocks dL_law_2657
theorem case_12 {p : Program} {e : Env} {s : State} {m : MethodId} {below : List Frame} {meth : Method} {c : Code} {b : Nat} {xs : Nat → Int32} {H : Heap} {locs : List Loc} {ls : Array Slot} {n : Nat} {a1 a2 a3 a4 : Int32} (S : CallFix p m c cL_law 9 s #[.ref b] wsL_law "TreeDifferLaw") (hr : meth.sig.returnType = ret) (hlocks : meth.locks = false) (hst : l.stackTraces = false) (hX : va_X b 5 xs s s.heap) (hbl : b < s.heap.size ∧ b < N0) (hN : s.heap.size = N0) (hn : N0 + 231 ≤ n) (hx1 : xs 1 = a1) (hx2 : xs 2 = a2) (hx3 : xs 3 = a3) (hx4 : xs 4 = a4) (hL : ∀ (i : Nat) (q : Nat × va_E), (lneed N0 cI cC cL cD cII cTr cTm cIt cB ql)[i]? = some q → F (N0 + q.1) = some q.2) (hG : fG N0 D vwCl (fty cI cC cL cD cII cTr cTm cIt cB) (fen ql) s F n H locs) (hl : lv_has ls 9 [(0, .ref b), (1, .ref N0), (2, .ref (N0 + 164)), (3, .ref (N0 + 229)), (4, .ref (N0 + 230)), (5, .int 0)]) : W p l e { frames := 2048, cells := 600002, slots := 7302232, locals := 84000 } s m #[.ref b] below meth c H locs 231 4980 (lw_Z below #[.ref b] s) (F0 m 1002 ls []) := by
  have hn1 := pk_nc a1
  have hf1 := pk_fc a1
  have hv1 := pk_vc a1
  obtain ⟨g_c1_ge_0, g_c1_le_65535⟩ := fl_c0 a1
  generalize hc1 : (a1.toUInt32 % 65536).toInt32 = c1 at *
  have hn2 := pk_nc a2
  have hf2 := pk_fc a2
  have hv2 := pk_vc a2
  obtain ⟨g_c2_ge_0, g_c2_le_65535⟩ := fl_c0 a2
  generalize hc2 : (a2.toUInt32 % 65536).toInt32 = c2 at *
  have hn3 := pk_nc a3
  have hf3 := pk_fc a3
  have hv3 := pk_vc a3
  obtain ⟨g_c3_ge_0, g_c3_le_65535⟩ := fl_c0 a3
  generalize hc3 : (a3.toUInt32 % 65536).toInt32 = c3 at *
  have hn4 := pk_nc a4
  have hf4 := pk_fc a4
  have hv4 := pk_vc a4
  obtain ⟨g_c4_ge_0, g_c4_le_65535⟩ := fl_c0 a4
  generalize hc4 : (a4.toUInt32 % 65536).toInt32 = c4 at *
  rcases fl_cut a1 0 (-1) (by decide) with g_a1_le_m1 | g_a1_ge_0
  · skip
    exact l12_0 g_a1_le_m1 S hr hlocks hst hX hbl hN hn hx1 hx2 hx3 hx4 (hL 0 _ rfl) (hL 4 _ rfl) hG hl
  · skip
    rcases fl_cut a1 3 2 (by decide) with g_a1_le_2 | g_a1_ge_3
    · skip
      rcases fl_cut a1 1 0 (by decide) with g_a1_le_0 | g_a1_ge_1
      · skip
        obtain rfl : a1 = 0 := Int32.le_antisymm g_a1_le_0 g_a1_ge_0
        exact l12_1 S hr hlocks hst hX hbl hN hn hx1 hx2 hx3 hx4 (hL 0 _ rfl) (hL 6 _ rfl) (hL 10 _ rfl) (hL 3 _ rfl) (hL 4 _ rfl) (hL 11 _ rfl) (hL 12 _ rfl) hG hl
      · skip
        rcases fl_cut a1 2 1 (by decide) with g_a1_le_1 | g_a1_ge_2
        · skip
          obtain rfl : a1 = 1 := Int32.le_antisymm g_a1_le_1 g_a1_ge_1
          exact l12_2 S hr hlocks hst hX hbl hN hn hx1 hx2 hx3 hx4 (hL 0 _ rfl) (hL 6 _ rfl) (hL 22 _ rfl) (hL 3 _ rfl) (hL 4 _ rfl) (hL 11 _ rfl) (hL 23 _ rfl) hG hl
        · skip
          obtain rfl : a1 = 2 := Int32.le_antisymm g_a1_le_2 g_a1_ge_2
          exact l12_3 S hr hlocks hst hX hbl hN hn hx1 hx2 hx3 hx4 (hL 0 _ rfl) (hL 6 _ rfl) (hL 33 _ rfl) (hL 3 _ rfl) (hL 4 _ rfl) (hL 11 _ rfl) (hL 34 _ rfl) hG hl
    · skip
      exact l12_4 g_a1_ge_3 S hr hlocks hst hX hbl hN hn hx1 hx2 hx3 hx4 (hL 0 _ rfl) (hL 4 _ rfl) hG hl
