theorem dX7_charAt_0 : decode cX7_charAt 0 = .ok (.iload_n 1, 1) := by decide +kernel
theorem dX7_charAt_1 : decode cX7_charAt 1 = .ok (.ifCond .lt 14, 3) := by decide +kernel
theorem dX7_charAt_15 : decode cX7_charAt 15 = .ok (.new 138, 3) := by decide +kernel
theorem dX7_charAt_18 : decode cX7_charAt 18 = .ok (.dup, 1) := by decide +kernel
theorem dX7_charAt_19 : decode cX7_charAt 19 = .ok (.ldc 140, 2) := by decide +kernel
theorem dX7_charAt_21 : decode cX7_charAt 21 = .ok (.invokespecial 142, 3) := by decide +kernel
theorem dX7_charAt_24 : decode cX7_charAt 24 = .ok (.athrow, 1) := by decide +kernel
theorem dL_charAt_0 : decode cL_charAt 0 = .ok (.aload_n 2, 1) := by decide +kernel
theorem dL_charAt_1 : decode cL_charAt 1 = .ok (.iconst 0, 1) := by decide +kernel
theorem dL_charAt_2 : decode cL_charAt 2 = .ok (.aload_n 0, 1) := by decide +kernel
theorem dL_charAt_3 : decode cL_charAt 3 = .ok (.iload_n 1, 1) := by decide +kernel
set_option maxRecDepth 20000 in
theorem ggL_charAt_X7_charAt : GoodIn wsL_charAt wsX7_charAt := goodIn_ca (goodIn_r _ [6, 7, 8, 9, 10, 11, 12, 13, 14, 15, 16, 17, 18, 19, 20, 21, 22, 23] (by decide +kernel) (by decide +kernel)) (goodIn_sub (fun _ h => List.mem_cons_of_mem _ (List.mem_append_right _ h)) (by decide +kernel))
set_option maxRecDepth 20000 in
theorem gL_charAt_X7_charAt : GoodIn wsL_charAt (wsV RL 35 RX7 yX7_charAt wsX7_charAt) := goodIn_app (goodIn_of _ (by decide +kernel)) ggL_charAt_X7_charAt
theorem dL_charAt_4 : decode cL_charAt 4 = .ok (.invokevirtual 35, 3) := by decide +kernel
theorem dL_charAt_12 : decode cL_charAt 12 = .ok (.astore_n 3, 1) := by decide +kernel
theorem dL_charAt_13 : decode cL_charAt 13 = .ok (.iconst 1, 1) := by decide +kernel
theorem dL_charAt_14 : decode cL_charAt 14 = .ok (.ireturn, 1) := by decide +kernel
theorem dX10_charAt_0 : decode cX10_charAt 0 = .ok (.aload_n 0, 1) := by decide +kernel
theorem dX10_charAt_1 : decode cX10_charAt 1 = .ok (.iconst 0, 1) := by decide +kernel
theorem dX10_charAt_2 : decode cX10_charAt 2 = .ok (.putfield 105, 3) := by decide +kernel
theorem dX10_charAt_5 : decode cX10_charAt 5 = .ok (.iload_n 1, 1) := by decide +kernel
theorem dX10_charAt_6 : decode cX10_charAt 6 = .ok (.iconst 0, 1) := by decide +kernel
theorem dX10_charAt_7 : decode cX10_charAt 7 = .ok (.aload_n 0, 1) := by decide +kernel
theorem dX10_charAt_8 : decode cX10_charAt 8 = .ok (.getfield 43, 3) := by decide +kernel
set_option maxRecDepth 20000 in
theorem ggX10_charAt_J0_length_8abf5 : GoodIn wsX10_charAt wsJ0_length_8abf5 := goodIn_r _ [7, 8, 9, 10, 11, 6, 12, 13, 14, 91, 92, 93, 94] (by decide +kernel) (by decide +kernel)
set_option maxRecDepth 20000 in
theorem gX10_charAt_J0_length_8abf5 : GoodIn wsX10_charAt (wsV RX10 186 RJ0 yJ0_length_8abf5 wsJ0_length_8abf5) := goodIn_app (goodIn_of _ (by decide +kernel)) ggX10_charAt_J0_length_8abf5
theorem dX10_charAt_11 : decode cX10_charAt 11 = .ok (.invokevirtual 186, 3) := by decide +kernel
theorem dX10_charAt_14 : decode cX10_charAt 14 = .ok (.iconst 1, 1) := by decide +kernel
theorem dX10_charAt_15 : decode cX10_charAt 15 = .ok (.isub, 1) := by decide +kernel
set_option maxRecDepth 20000 in
theorem ggX10_charAt_X10_isBetween : GoodIn wsX10_charAt wsX10_isBetween := goodIn_r _ [18] (by decide +kernel) (by decide +kernel)
set_option maxRecDepth 20000 in
theorem gX10_charAt_X10_isBetween : GoodIn wsX10_charAt (va_wsS RX10 108 yX10_isBetween wsX10_isBetween) := goodIn_app (goodIn_of _ (by decide +kernel)) ggX10_charAt_X10_isBetween
theorem dX10_charAt_16 : decode cX10_charAt 16 = .ok (.invokestatic 108, 3) := by decide +kernel
theorem dX10_charAt_19 : decode cX10_charAt 19 = .ok (.ifCond .eq 14, 3) := by decide +kernel
theorem dX10_charAt_33 : decode cX10_charAt 33 = .ok (.aload_n 0, 1) := by decide +kernel
theorem dX10_charAt_34 : decode cX10_charAt 34 = .ok (.iconst 1, 1) := by decide +kernel
set_option maxRecDepth 20000 in
theorem ggX10_charAt_X10_fails : GoodIn wsX10_charAt wsX10_fails := goodIn_r _ [59, 1, 60, 61, 62, 63, 64, 65, 66, 67, 68, 69, 70, 71, 72, 73, 74, 75, 76, 77, 78, 79, 80, 81, 82, 83, 84, 85, 86, 87, 88, 89, 90] (by decide +kernel) (by decide +kernel)
set_option maxRecDepth 20000 in
theorem gX10_charAt_X10_fails : GoodIn wsX10_charAt (wsV RX10 126 RX10 yX10_fails wsX10_fails) := goodIn_app (goodIn_of _ (by decide +kernel)) ggX10_charAt_X10_fails
theorem dX10_charAt_35 : decode cX10_charAt 35 = .ok (.invokevirtual 126, 3) := by decide +kernel
theorem dX10_charAt_38 : decode cX10_charAt 38 = .ok (.i2c, 1) := by decide +kernel
theorem dX10_charAt_39 : decode cX10_charAt 39 = .ok (.ireturn, 1) := by decide +kernel
theorem dX7_charAt_4 : decode cX7_charAt 4 = .ok (.iload_n 1, 1) := by decide +kernel
theorem dX7_charAt_5 : decode cX7_charAt 5 = .ok (.aload_n 0, 1) := by decide +kernel
theorem dX7_charAt_6 : decode cX7_charAt 6 = .ok (.getfield 25, 3) := by decide +kernel
theorem dX7_charAt_9 : decode cX7_charAt 9 = .ok (.getfield 115, 3) := by decide +kernel
theorem dX7_charAt_12 : decode cX7_charAt 12 = .ok (.if_icmp .lt 13, 3) := by decide +kernel
theorem dL_law_474 : decode cL_law 474 = .ok (.aload_n 1, 1) := by decide +kernel
theorem dL_law_475 : decode cL_law 475 = .ok (.aload_n 0, 1) := by decide +kernel
theorem dL_law_476 : decode cL_law 476 = .ok (.iload 5, 2) := by decide +kernel
theorem dL_law_478 : decode cL_law 478 = .ok (.iconst 1, 1) := by decide +kernel
theorem dL_law_479 : decode cL_law 479 = .ok (.iadd, 1) := by decide +kernel
theorem dL_law_480 : decode cL_law 480 = .ok (.iaload, 1) := by decide +kernel
theorem dL_law_481 : decode cL_law 481 = .ok (.aload_n 3, 1) := by decide +kernel
set_option maxRecDepth 20000 in
theorem ggL_law_L_charAt : GoodIn wsL_law wsL_charAt := goodIn_ca (goodIn_r _ [605, 185, 606, 607, 608, 2, 609, 200, 201, 23, 312, 610, 1458, 1459, 1460, 1461, 1462, 1463, 1464, 1465, 1466, 1467, 1503, 1504] (by decide +kernel) (by decide +kernel)) (goodIn_sub (fun _ h => List.mem_append_left _ (List.mem_append_left _ (List.mem_append_right _ h))) (by decide +kernel))
set_option maxRecDepth 20000 in
theorem gL_law_L_charAt : GoodIn wsL_law (va_wsS RL 173 yL_charAt wsL_charAt) := goodIn_app (goodIn_of _ (by decide +kernel)) ggL_law_L_charAt
theorem dL_law_482 : decode cL_law 482 = .ok (.invokestatic 173, 3) := by decide +kernel
theorem dL_law_485 : decode cL_law 485 = .ok (.istore 6, 2) := by decide +kernel
theorem dL_law_487 : decode cL_law 487 = .ok (.aload_n 2, 1) := by decide +kernel
theorem dL_law_488 : decode cL_law 488 = .ok (.aload_n 0, 1) := by decide +kernel
theorem dL_law_489 : decode cL_law 489 = .ok (.iload 5, 2) := by decide +kernel
theorem dL_law_491 : decode cL_law 491 = .ok (.iconst 1, 1) := by decide +kernel
theorem dL_law_492 : decode cL_law 492 = .ok (.iadd, 1) := by decide +kernel
theorem dL_law_493 : decode cL_law 493 = .ok (.iaload, 1) := by decide +kernel
set_option maxRecDepth 20000 in
theorem ggL_law_X10_charAt : GoodIn wsL_law wsX10_charAt := goodIn_r _ [614, 172, 117, 569, 570, 571, 448, 572, 528, 573, 574, 575, 576, 529, 527, 262, 263, 5, 264, 615, 616, 617, 618, 619, 620, 621, 622, 623, 624, 427, 625, 626, 468, 469, 450, 470, 471, 453, 472, 627, 628, 363, 629, 464, 465, 466, 443, 444, 445, 467, 562, 563, 564, 458, 459, 460, 174, 175, 176, 177, 1468, 1469, 1470, 1471, 1472, 1473, 1474, 1475, 1476, 1477, 1478, 1479, 1480, 1481, 1482, 1483, 1484, 1485, 1486, 1487, 1488, 1489, 1490, 1491, 1492, 1493, 1494, 1495, 1496, 1497, 1498, 1546, 1547, 1548, 1549] (by decide +kernel) (by decide +kernel)
set_option maxRecDepth 20000 in
theorem gL_law_X10_charAt : GoodIn wsL_law (wsV RL 175 RX10 yX10_charAt wsX10_charAt) := goodIn_app (goodIn_of _ (by decide +kernel)) ggL_law_X10_charAt
theorem dL_law_494 : decode cL_law 494 = .ok (.invokevirtual 175, 3) := by decide +kernel
theorem dL_law_497 : decode cL_law 497 = .ok (.istore 7, 2) := by decide +kernel
theorem dL_law_499 : decode cL_law 499 = .ok (.aload_n 2, 1) := by decide +kernel
theorem dL_law_500 : decode cL_law 500 = .ok (.invokevirtual 156, 3) := by decide +kernel
theorem dL_law_503 : decode cL_law 503 = .ok (.iload 6, 2) := by decide +kernel
theorem dL_law_505 : decode cL_law 505 = .ok (.if_icmp .eq 5, 3) := by decide +kernel
theorem dL_law_510 : decode cL_law 510 = .ok (.iload 6, 2) := by decide +kernel
theorem dL_law_512 : decode cL_law 512 = .ok (.ifCond .ne 15, 3) := by decide +kernel
theorem dL_law_527 : decode cL_law 527 = .ok (.goto 2123, 3) := by decide +kernel
variable {l : Launch} {N0 : Nat} {D : va_G} {cI cC cL cD cII cTr cTm cIt cB : ClassId} {F : Nat → Option va_E} {ql : Nat → Nat}
theorem k1634_X7_charAt {n : Nat} {a1 : Int32} (g_a1_le_m1 : a1 ≤ (-1)) (hst : l.stackTraces = false) (hn : N0 + 231 ≤ n)  : vx_Met l yX7_charAt wsX7_charAt ({ frames := 6, cells := 1, slots := 6, locals := 82 }) (va_Pc [.ref N0, .int a1] (fP N0 D vwCl (fty cI cC cL cD cII cTr cTm cIt cB) (fen ql) F n)) (fNo N0 D vwCl (fty cI cC cL cD cII cTr cTm cIt cB) F n) (fXC N0 D vwCl (fty cI cC cL cD cII cTr cTm cIt cB) "java/lang/IndexOutOfBoundsException" F n) 1 6 (fA N0) := by
  refine fx_startX 2 rfl rfl (Nat.le_of_ble_eq_true rfl) ?_ rfl
  intro p e s m below meth c ls S htab hlocks hG hl
  have hl : lv_has ls 2 [(0, .ref N0), (1, .int a1)] := hl
  refine lv_iload_n S.1 S.2.1 dX7_charAt_0 rfl (lv_at hl 1 rfl) ?_
  refine lv_if_lt (tgt := 15) S.1 S.2.1 dX7_charAt_1 (by decide) (fun _ => ?_) (fun c => absurd (Int32.lt_of_le_of_lt g_a1_le_m1 (by decide)) c)
  exact fx_throw (text := "no such character") S hG hl.1 hst (by decide) (by decide +kernel) (by decide +kernel) (List.mem_of_getElem? (i := 3) rfl) (by decide +kernel) (by decide +kernel) (by decide +kernel) (List.mem_of_getElem? (i := 2) rfl) (List.mem_of_getElem? (i := 0) rfl) (List.mem_of_getElem? (i := 1) rfl) (List.mem_of_getElem? (i := 2) rfl) dX7_charAt_15 dX7_charAt_18 dX7_charAt_19 dX7_charAt_21 dX7_charAt_24 htab (by decide) (Nat.le_of_ble_eq_true rfl) (by decide) (by decide) hlocks (by decide) (by decide)
theorem k1635_L_charAt {n : Nat} {a1 : Int32} (g_a1_le_m1 : a1 ≤ (-1)) (hst : l.stackTraces = false) (hn : N0 + 231 ≤ n) (h0 : F N0 = some (.inr (9, [.ref (N0 + 1), .ref (N0 + 2), .ref (N0 + 11), .ref (N0 + 13), .ref (N0 + 63), .ref (N0 + 65), .ref (N0 + 85), .int (-1), .int (-1), .int 32]))) : Met l yL_charAt wsL_charAt ({ frames := 7, cells := 1, slots := 6, locals := 103 }) (va_Pc [.ref N0, .int a1, .ref (N0 + 229)] (fP N0 D vwCl (fty cI cC cL cD cII cTr cTm cIt cB) (fen ql) F n)) (fQi N0 D vwCl (fty cI cC cL cD cII cTr cTm cIt cB) (fun (r : Int32) (u : Nat) => r = 1 ∧ n ≤ u) (fun _ => F) (fun u => u)) 1 6 (fA N0) := by
  refine fx_startW (hh := [(0, 9, 12, 19)]) 4 rfl rfl (Nat.le_of_ble_eq_true rfl) ?_ rfl
  intro p e s m below meth c ls S htab hr hlocks hG hl
  have hl : lv_has ls 4 [(0, .ref N0), (1, .int a1), (2, .ref (N0 + 229))] := hl
  have lt_h0 := hG.1.lt h0
  refine lv_aload_n S.1 S.2.1 dL_charAt_0 rfl (lv_at hl 2 rfl) ?_
  refine lv_iconst (v := 0) S.1 S.2.1 dL_charAt_1 (by decide) ?_
  refine lv_aload_n S.1 S.2.1 dL_charAt_2 rfl (lv_at hl 0 rfl) ?_
  refine lv_iload_n S.1 S.2.1 dL_charAt_3 rfl (lv_at hl 1 rfl) ?_
  refine fx_xV (As := [.int a1]) (rest := [.int 0, .ref (N0 + 229)]) S hG (k1634_X7_charAt g_a1_le_m1 hst (by omega)) h0 rfl (cwV 1 S.2.2.2.2 gL_charAt_X7_charAt rfl rfl rfl (by decide +kernel) ⟨Nat.le_of_ble_eq_true rfl, Nat.le_of_ble_eq_true rfl⟩) rfl hl.1 rfl (Nat.le_of_ble_eq_true rfl) dL_charAt_4 ⟨Nat.le_of_ble_eq_true rfl, Nat.le_of_ble_eq_true rfl⟩ (fun ceq_1 q_1 H locs n_2 hn_2 hG h1q_1 h2q_1 h3q_1 => ?_)
  refine fx_catch (hh := [(0, 9, 12, 19)]) S htab hG h1q_1 h2q_1 h3q_1 [] ⟨0, 9, 12, 19⟩ [] rfl [] (fun z hz => absurd hz List.not_mem_nil) (by decide) (by decide) (by decide +kernel) (List.mem_of_getElem? (i := 2) rfl) ?_
  refine lv_astore_n (lv' := [(3, .ref q_1), (0, .ref N0), (1, .int a1), (2, .ref (N0 + 229))]) S.1 S.2.1 dL_charAt_12 rfl hl (by decide) rfl (fun ls hl => ?_)
  refine lv_iconst (v := 1) S.1 S.2.1 dL_charAt_13 (by decide) ?_
  exact fx_iret S hr hlocks n_2 hG (⟨rfl, hn_2⟩) dL_charAt_14
theorem k1636_X10_isBetween {n : Nat} {a1 : Int32} (g_a1_le_m1 : a1 ≤ (-1)) (hn : N0 + 231 ≤ n)  : Met l yX10_isBetween wsX10_isBetween ({ frames := 0, cells := 0, slots := 0, locals := 0 }) (va_Pc [.int a1, .int 0, .int (-1)] (fP N0 D vwCl (fty cI cC cL cD cII cTr cTm cIt cB) (fen ql) F n)) (fQi N0 D vwCl (fty cI cC cL cD cII cTr cTm cIt cB) (fun (r : Int32) (_ : Unit) => r = 0) (fun _ => F) (fun _ => n)) 0 0 (fA N0) := by
  refine fx_start 3 rfl rfl (Nat.le_of_ble_eq_true rfl) ?_ rfl
  intro p e s m below meth c ls S hr hlocks hin hG hl
  have hl : lv_has ls 3 [(0, .int a1), (1, .int 0), (2, .int (-1))] := hl
  refine lv_iload_n S.1 S.2.1 dX10_isBetween_0 rfl (lv_at hl 1 rfl) ?_
  refine lv_iload_n S.1 S.2.1 dX10_isBetween_1 rfl (lv_at hl 0 rfl) ?_
  refine lv_icmp_gt (tgt := 14) S.1 S.2.1 dX10_isBetween_2 (by decide) (fun _ => ?_) (fun c => absurd (Int32.lt_of_le_of_lt g_a1_le_m1 (by decide)) c)
  refine lv_iconst (v := 0) S.1 S.2.1 dX10_isBetween_14 (by decide) ?_
  exact fx_zret S hr (rfl) hlocks () hG (rfl) dX10_isBetween_15
theorem i_X10_charAt_X10 : ∀ w ∈ u_ws RX10 TX10 31, w ∈ wsX10_charAt := by decide +kernel
theorem k1637_X10_charAt {n : Nat} {a1 : Int32} (g_a1_le_m1 : a1 ≤ (-1)) (hn : N0 + 231 ≤ n) (h0 : F (N0 + 164) = some (.inr (12, [.ref (N0 + 165), .int 0, .ref (N0 + 181), .int 0, .int 0, .int 0, .int (-1), .ref (ql 24), .ref (N0 + 182), .ref (N0 + 187), .ref (N0 + 208), .ref (N0 + 209), .ref (N0 + 210), .ref (N0 + 211), .ref (N0 + 212), .int 0, .ref (N0 + 213), .ref (N0 + 218), .ref (N0 + 223), .ref (N0 + 224), .ref (N0 + 225), .ref (N0 + 226), .ref (N0 + 227), .int 0, .int 0, .ref (N0 + 228), .null, .int (-1), .int 0, .int 0, .int 0]))) : Met l yX10_charAt wsX10_charAt ({ frames := 2, cells := 0, slots := 0, locals := 40 }) (va_Pc [.ref (N0 + 164), .int a1] (fP N0 D vwCl (fty cI cC cL cD cII cTr cTm cIt cB) (fen ql) F n)) (fQi N0 D vwCl (fty cI cC cL cD cII cTr cTm cIt cB) (fun (r : Int32) (_ : Unit) => r = 0) (fun _ => (fu F (N0 + 164) (.inr (12, [.ref (N0 + 165), .int 1, .ref (N0 + 181), .int 0, .int 0, .int 0, .int (-1), .ref (ql 24), .ref (N0 + 182), .ref (N0 + 187), .ref (N0 + 208), .ref (N0 + 209), .ref (N0 + 210), .ref (N0 + 211), .ref (N0 + 212), .int 0, .ref (N0 + 213), .ref (N0 + 218), .ref (N0 + 223), .ref (N0 + 224), .ref (N0 + 225), .ref (N0 + 226), .ref (N0 + 227), .int 0, .int 0, .ref (N0 + 228), .null, .int (-1), .int 0, .int 0, .int 0])))) (fun _ => n)) 0 0 (fA N0) := by
  refine fx_start 2 rfl rfl (Nat.le_of_ble_eq_true rfl) ?_ rfl
  intro p e s m below meth c ls S hr hlocks hin hG hl
  have hl : lv_has ls 2 [(0, .ref (N0 + 164)), (1, .int a1)] := hl
  have lt_h0 := hG.1.lt h0
  refine lv_aload_n S.1 S.2.1 dX10_charAt_0 rfl (lv_at hl 0 rfl) ?_
  refine lv_iconst (v := 0) S.1 S.2.1 dX10_charAt_1 (by decide) ?_
  refine gx_put (C := RX10) (T := TX10) (N := 31) (ty := .int) (v := .int 0) (fs' := [.ref (N0 + 165), .int 0, .ref (N0 + 181), .int 0, .int 0, .int 0, .int (-1), .ref (ql 24), .ref (N0 + 182), .ref (N0 + 187), .ref (N0 + 208), .ref (N0 + 209), .ref (N0 + 210), .ref (N0 + 211), .ref (N0 + 212), .int 0, .ref (N0 + 213), .ref (N0 + 218), .ref (N0 + 223), .ref (N0 + 224), .ref (N0 + 225), .ref (N0 + 226), .ref (N0 + 227), .int 0, .int 0, .ref (N0 + 228), .null, .int (-1), .int 0, .int 0, .int 0]) S hG h0 i_X10_charAt_X10 rfl 1 (by decide) tyX10 tyX10_ok nmX10 (by decide +kernel) rfl (by decide +kernel) rfl rfl (Nat.le_of_ble_eq_true rfl) rfl dX10_charAt_2 (fun H locs hG => ?_)
  refine lv_iload_n S.1 S.2.1 dX10_charAt_5 rfl (lv_at hl 1 rfl) ?_
  refine lv_iconst (v := 0) S.1 S.2.1 dX10_charAt_6 (by decide) ?_
  refine lv_aload_n S.1 S.2.1 dX10_charAt_7 rfl (lv_at hl 0 rfl) ?_
  refine gx_get (C := RX10) (T := TX10) (N := 31) S hG fu_s i_X10_charAt_X10 rfl 7 (by decide) (by decide +kernel) rfl dX10_charAt_8 ?_
  refine fx_cOi (As := []) (rest := [.int 0, .int a1]) S hG o_length (cwV 0 S.2.2.2.2 gX10_charAt_J0_length_8abf5 rfl rfl rfl (by decide +kernel) ⟨Nat.le_of_ble_eq_true rfl, Nat.le_of_ble_eq_true rfl⟩) rfl hl.1 rfl (Nat.le_of_ble_eq_true rfl) dX10_charAt_11 ⟨Nat.le_of_ble_eq_true rfl, Nat.le_of_ble_eq_true rfl⟩ (fun rv_o _ H locs hp hG => ?_)
  subst rv_o
  refine lv_iconst (v := 1) S.1 S.2.1 dX10_charAt_14 (by decide) ?_
  refine lv_isub S.1 S.2.1 dX10_charAt_15 ?_
  refine fx_topi (y := (-1)) (by decide) ?_
  refine fx_cSi (As := [.int a1, .int 0, .int (-1)]) (rest := []) S hG (k1636_X10_isBetween g_a1_le_m1 (by omega)) (cwS 3 S.2.2.2.2 gX10_charAt_X10_isBetween rfl rfl rfl (by decide +kernel) ⟨Nat.le_of_ble_eq_true rfl, Nat.le_of_ble_eq_true rfl⟩) rfl hl.1 rfl (Nat.le_of_ble_eq_true rfl) dX10_charAt_16 ⟨Nat.le_of_ble_eq_true rfl, Nat.le_of_ble_eq_true rfl⟩ (fun rv_1 _ H locs hp hG => ?_)
  subst rv_1
  refine lv_if_eq (tgt := 33) S.1 S.2.1 dX10_charAt_19 (by decide) (fun _ => ?_) (fun c => absurd (by decide) c)
  refine lv_aload_n S.1 S.2.1 dX10_charAt_33 rfl (lv_at hl 0 rfl) ?_
  refine lv_iconst (v := 1) S.1 S.2.1 dX10_charAt_34 (by decide) ?_
  refine fx_cVi (As := [.int 1]) (rest := []) S hG (k23_X10_fails (by omega) fu_s) fu_s rfl (cwV 1 S.2.2.2.2 gX10_charAt_X10_fails rfl rfl rfl (by decide +kernel) ⟨Nat.le_of_ble_eq_true rfl, Nat.le_of_ble_eq_true rfl⟩) rfl hl.1 rfl (Nat.le_of_ble_eq_true rfl) dX10_charAt_35 ⟨Nat.le_of_ble_eq_true rfl, Nat.le_of_ble_eq_true rfl⟩ (fun rv_2 _ H locs hp hG => ?_)
  subst rv_2
  refine lv_i2c (v := 0) S.1 S.2.1 dX10_charAt_38 (by decide) ?_
  have hG : fG N0 D vwCl (fty cI cC cL cD cII cTr cTm cIt cB) (fen ql) s (fu F (N0 + 164) (.inr (12, [.ref (N0 + 165), .int 1, .ref (N0 + 181), .int 0, .int 0, .int 0, .int (-1), .ref (ql 24), .ref (N0 + 182), .ref (N0 + 187), .ref (N0 + 208), .ref (N0 + 209), .ref (N0 + 210), .ref (N0 + 211), .ref (N0 + 212), .int 0, .ref (N0 + 213), .ref (N0 + 218), .ref (N0 + 223), .ref (N0 + 224), .ref (N0 + 225), .ref (N0 + 226), .ref (N0 + 227), .int 0, .int 0, .ref (N0 + 228), .null, .int (-1), .int 0, .int 0, .int 0]))) n H locs := hG.weak (fun a e h => by
    rcases fu_cases h with ⟨rfl, he⟩ | ⟨hne0, h⟩
    · cases he; exact fu_s
    · exact (fu_at (by omega) (fu_at (by omega) h)))
  exact fx_zret S hr (rfl) hlocks () hG (rfl) dX10_charAt_39
theorem i_X7_charAt_X0 : ∀ w ∈ u_ws RX0 TX0 2, w ∈ wsX7_charAt := by decide +kernel
theorem i_X7_charAt_X7 : ∀ w ∈ u_ws RX7 TX7 10, w ∈ wsX7_charAt := by decide +kernel
theorem k1638_X7_charAt {n : Nat} {a1 : Int32} (g_a1_ge_0 : 0 ≤ a1) (hst : l.stackTraces = false) (hn : N0 + 231 ≤ n) (h0 : F N0 = some (.inr (9, [.ref (N0 + 1), .ref (N0 + 2), .ref (N0 + 11), .ref (N0 + 13), .ref (N0 + 63), .ref (N0 + 65), .ref (N0 + 85), .int (-1), .int (-1), .int 32]))) (h1 : F (N0 + 11) = some (.inr (2, [.ref (N0 + 12), .int 0]))) : vx_Met l yX7_charAt wsX7_charAt ({ frames := 6, cells := 1, slots := 6, locals := 82 }) (va_Pc [.ref N0, .int a1] (fP N0 D vwCl (fty cI cC cL cD cII cTr cTm cIt cB) (fen ql) F n)) (fNo N0 D vwCl (fty cI cC cL cD cII cTr cTm cIt cB) F n) (fXC N0 D vwCl (fty cI cC cL cD cII cTr cTm cIt cB) "java/lang/IndexOutOfBoundsException" F n) 1 6 (fA N0) := by
  refine fx_startX 2 rfl rfl (Nat.le_of_ble_eq_true rfl) ?_ rfl
  intro p e s m below meth c ls S htab hlocks hG hl
  have hl : lv_has ls 2 [(0, .ref N0), (1, .int a1)] := hl
  have lt_h0 := hG.1.lt h0
  have lt_h1 := hG.1.lt h1
  refine lv_iload_n S.1 S.2.1 dX7_charAt_0 rfl (lv_at hl 1 rfl) ?_
  refine lv_if_lt (tgt := 15) S.1 S.2.1 dX7_charAt_1 (by decide) (fun c => absurd c (Int32.not_lt.mpr (Int32.le_trans (by decide) g_a1_ge_0))) (fun _ => ?_)
  refine lv_iload_n S.1 S.2.1 dX7_charAt_4 rfl (lv_at hl 1 rfl) ?_
  refine lv_aload_n S.1 S.2.1 dX7_charAt_5 rfl (lv_at hl 0 rfl) ?_
  refine gx_get (C := RX7) (T := TX7) (N := 10) S hG h0 i_X7_charAt_X7 rfl 2 (by decide) (by decide +kernel) rfl dX7_charAt_6 ?_
  refine gx_get (C := RX0) (T := TX0) (N := 2) S hG h1 i_X7_charAt_X0 rfl 1 (by decide) (by decide +kernel) rfl dX7_charAt_9 ?_
  refine lv_icmp_lt (tgt := 25) S.1 S.2.1 dX7_charAt_12 (by decide) (fun c => absurd c (Int32.not_lt.mpr (Int32.le_trans (by decide) g_a1_ge_0))) (fun _ => ?_)
  exact fx_throw (text := "no such character") S hG hl.1 hst (by decide) (by decide +kernel) (by decide +kernel) (List.mem_of_getElem? (i := 3) rfl) (by decide +kernel) (by decide +kernel) (by decide +kernel) (List.mem_of_getElem? (i := 2) rfl) (List.mem_of_getElem? (i := 0) rfl) (List.mem_of_getElem? (i := 1) rfl) (List.mem_of_getElem? (i := 2) rfl) dX7_charAt_15 dX7_charAt_18 dX7_charAt_19 dX7_charAt_21 dX7_charAt_24 htab (by decide) (Nat.le_of_ble_eq_true rfl) (by decide) (by decide) hlocks (by decide) (by decide)
theorem k1639_L_charAt {n : Nat} {a1 : Int32} (g_a1_ge_0 : 0 ≤ a1) (hst : l.stackTraces = false) (hn : N0 + 231 ≤ n) (h0 : F N0 = some (.inr (9, [.ref (N0 + 1), .ref (N0 + 2), .ref (N0 + 11), .ref (N0 + 13), .ref (N0 + 63), .ref (N0 + 65), .ref (N0 + 85), .int (-1), .int (-1), .int 32]))) (h1 : F (N0 + 11) = some (.inr (2, [.ref (N0 + 12), .int 0]))) : Met l yL_charAt wsL_charAt ({ frames := 7, cells := 1, slots := 6, locals := 103 }) (va_Pc [.ref N0, .int a1, .ref (N0 + 229)] (fP N0 D vwCl (fty cI cC cL cD cII cTr cTm cIt cB) (fen ql) F n)) (fQi N0 D vwCl (fty cI cC cL cD cII cTr cTm cIt cB) (fun (r : Int32) (u : Nat) => r = 1 ∧ n ≤ u) (fun _ => F) (fun u => u)) 1 6 (fA N0) := by
  refine fx_startW (hh := [(0, 9, 12, 19)]) 4 rfl rfl (Nat.le_of_ble_eq_true rfl) ?_ rfl
  intro p e s m below meth c ls S htab hr hlocks hG hl
  have hl : lv_has ls 4 [(0, .ref N0), (1, .int a1), (2, .ref (N0 + 229))] := hl
  have lt_h0 := hG.1.lt h0
  have lt_h1 := hG.1.lt h1
  refine lv_aload_n S.1 S.2.1 dL_charAt_0 rfl (lv_at hl 2 rfl) ?_
  refine lv_iconst (v := 0) S.1 S.2.1 dL_charAt_1 (by decide) ?_
  refine lv_aload_n S.1 S.2.1 dL_charAt_2 rfl (lv_at hl 0 rfl) ?_
  refine lv_iload_n S.1 S.2.1 dL_charAt_3 rfl (lv_at hl 1 rfl) ?_
  refine fx_xV (As := [.int a1]) (rest := [.int 0, .ref (N0 + 229)]) S hG (k1638_X7_charAt g_a1_ge_0 hst (by omega) h0 h1) h0 rfl (cwV 1 S.2.2.2.2 gL_charAt_X7_charAt rfl rfl rfl (by decide +kernel) ⟨Nat.le_of_ble_eq_true rfl, Nat.le_of_ble_eq_true rfl⟩) rfl hl.1 rfl (Nat.le_of_ble_eq_true rfl) dL_charAt_4 ⟨Nat.le_of_ble_eq_true rfl, Nat.le_of_ble_eq_true rfl⟩ (fun ceq_1 q_1 H locs n_2 hn_2 hG h1q_1 h2q_1 h3q_1 => ?_)
  refine fx_catch (hh := [(0, 9, 12, 19)]) S htab hG h1q_1 h2q_1 h3q_1 [] ⟨0, 9, 12, 19⟩ [] rfl [] (fun z hz => absurd hz List.not_mem_nil) (by decide) (by decide) (by decide +kernel) (List.mem_of_getElem? (i := 2) rfl) ?_
  refine lv_astore_n (lv' := [(3, .ref q_1), (0, .ref N0), (1, .int a1), (2, .ref (N0 + 229))]) S.1 S.2.1 dL_charAt_12 rfl hl (by decide) rfl (fun ls hl => ?_)
  refine lv_iconst (v := 1) S.1 S.2.1 dL_charAt_13 (by decide) ?_
  exact fx_iret S hr hlocks n_2 hG (⟨rfl, hn_2⟩) dL_charAt_14
theorem k1640_X10_isBetween {n : Nat} {a1 : Int32} (g_a1_ge_0 : 0 ≤ a1) (hn : N0 + 231 ≤ n)  : Met l yX10_isBetween wsX10_isBetween ({ frames := 0, cells := 0, slots := 0, locals := 0 }) (va_Pc [.int a1, .int 0, .int (-1)] (fP N0 D vwCl (fty cI cC cL cD cII cTr cTm cIt cB) (fen ql) F n)) (fQi N0 D vwCl (fty cI cC cL cD cII cTr cTm cIt cB) (fun (r : Int32) (_ : Unit) => r = 0) (fun _ => F) (fun _ => n)) 0 0 (fA N0) := by
  refine fx_start 3 rfl rfl (Nat.le_of_ble_eq_true rfl) ?_ rfl
  intro p e s m below meth c ls S hr hlocks hin hG hl
  have hl : lv_has ls 3 [(0, .int a1), (1, .int 0), (2, .int (-1))] := hl
  refine lv_iload_n S.1 S.2.1 dX10_isBetween_0 rfl (lv_at hl 1 rfl) ?_
  refine lv_iload_n S.1 S.2.1 dX10_isBetween_1 rfl (lv_at hl 0 rfl) ?_
  refine lv_icmp_gt (tgt := 14) S.1 S.2.1 dX10_isBetween_2 (by decide) (fun c => absurd c (Int32.not_lt.mpr (Int32.le_trans (by decide) g_a1_ge_0))) (fun _ => ?_)
  refine lv_iload_n S.1 S.2.1 dX10_isBetween_5 rfl (lv_at hl 0 rfl) ?_
  refine lv_iload_n S.1 S.2.1 dX10_isBetween_6 rfl (lv_at hl 2 rfl) ?_
  refine lv_icmp_gt (tgt := 14) S.1 S.2.1 dX10_isBetween_7 (by decide) (fun _ => ?_) (fun c => absurd (Int32.lt_of_lt_of_le (by decide) g_a1_ge_0) c)
  refine lv_iconst (v := 0) S.1 S.2.1 dX10_isBetween_14 (by decide) ?_
  exact fx_zret S hr (rfl) hlocks () hG (rfl) dX10_isBetween_15
theorem k1641_X10_charAt {n : Nat} {a1 : Int32} (g_a1_ge_0 : 0 ≤ a1) (hn : N0 + 231 ≤ n) (h0 : F (N0 + 164) = some (.inr (12, [.ref (N0 + 165), .int 0, .ref (N0 + 181), .int 0, .int 0, .int 0, .int (-1), .ref (ql 24), .ref (N0 + 182), .ref (N0 + 187), .ref (N0 + 208), .ref (N0 + 209), .ref (N0 + 210), .ref (N0 + 211), .ref (N0 + 212), .int 0, .ref (N0 + 213), .ref (N0 + 218), .ref (N0 + 223), .ref (N0 + 224), .ref (N0 + 225), .ref (N0 + 226), .ref (N0 + 227), .int 0, .int 0, .ref (N0 + 228), .null, .int (-1), .int 0, .int 0, .int 0]))) : Met l yX10_charAt wsX10_charAt ({ frames := 2, cells := 0, slots := 0, locals := 40 }) (va_Pc [.ref (N0 + 164), .int a1] (fP N0 D vwCl (fty cI cC cL cD cII cTr cTm cIt cB) (fen ql) F n)) (fQi N0 D vwCl (fty cI cC cL cD cII cTr cTm cIt cB) (fun (r : Int32) (_ : Unit) => r = 0) (fun _ => (fu F (N0 + 164) (.inr (12, [.ref (N0 + 165), .int 1, .ref (N0 + 181), .int 0, .int 0, .int 0, .int (-1), .ref (ql 24), .ref (N0 + 182), .ref (N0 + 187), .ref (N0 + 208), .ref (N0 + 209), .ref (N0 + 210), .ref (N0 + 211), .ref (N0 + 212), .int 0, .ref (N0 + 213), .ref (N0 + 218), .ref (N0 + 223), .ref (N0 + 224), .ref (N0 + 225), .ref (N0 + 226), .ref (N0 + 227), .int 0, .int 0, .ref (N0 + 228), .null, .int (-1), .int 0, .int 0, .int 0])))) (fun _ => n)) 0 0 (fA N0) := by
  refine fx_start 2 rfl rfl (Nat.le_of_ble_eq_true rfl) ?_ rfl
  intro p e s m below meth c ls S hr hlocks hin hG hl
  have hl : lv_has ls 2 [(0, .ref (N0 + 164)), (1, .int a1)] := hl
  have lt_h0 := hG.1.lt h0
  refine lv_aload_n S.1 S.2.1 dX10_charAt_0 rfl (lv_at hl 0 rfl) ?_
  refine lv_iconst (v := 0) S.1 S.2.1 dX10_charAt_1 (by decide) ?_
  refine gx_put (C := RX10) (T := TX10) (N := 31) (ty := .int) (v := .int 0) (fs' := [.ref (N0 + 165), .int 0, .ref (N0 + 181), .int 0, .int 0, .int 0, .int (-1), .ref (ql 24), .ref (N0 + 182), .ref (N0 + 187), .ref (N0 + 208), .ref (N0 + 209), .ref (N0 + 210), .ref (N0 + 211), .ref (N0 + 212), .int 0, .ref (N0 + 213), .ref (N0 + 218), .ref (N0 + 223), .ref (N0 + 224), .ref (N0 + 225), .ref (N0 + 226), .ref (N0 + 227), .int 0, .int 0, .ref (N0 + 228), .null, .int (-1), .int 0, .int 0, .int 0]) S hG h0 i_X10_charAt_X10 rfl 1 (by decide) tyX10 tyX10_ok nmX10 (by decide +kernel) rfl (by decide +kernel) rfl rfl (Nat.le_of_ble_eq_true rfl) rfl dX10_charAt_2 (fun H locs hG => ?_)
  refine lv_iload_n S.1 S.2.1 dX10_charAt_5 rfl (lv_at hl 1 rfl) ?_
  refine lv_iconst (v := 0) S.1 S.2.1 dX10_charAt_6 (by decide) ?_
  refine lv_aload_n S.1 S.2.1 dX10_charAt_7 rfl (lv_at hl 0 rfl) ?_
  refine gx_get (C := RX10) (T := TX10) (N := 31) S hG fu_s i_X10_charAt_X10 rfl 7 (by decide) (by decide +kernel) rfl dX10_charAt_8 ?_
  refine fx_cOi (As := []) (rest := [.int 0, .int a1]) S hG o_length (cwV 0 S.2.2.2.2 gX10_charAt_J0_length_8abf5 rfl rfl rfl (by decide +kernel) ⟨Nat.le_of_ble_eq_true rfl, Nat.le_of_ble_eq_true rfl⟩) rfl hl.1 rfl (Nat.le_of_ble_eq_true rfl) dX10_charAt_11 ⟨Nat.le_of_ble_eq_true rfl, Nat.le_of_ble_eq_true rfl⟩ (fun rv_o _ H locs hp hG => ?_)
  subst rv_o
  refine lv_iconst (v := 1) S.1 S.2.1 dX10_charAt_14 (by decide) ?_
  refine lv_isub S.1 S.2.1 dX10_charAt_15 ?_
  refine fx_topi (y := (-1)) (by decide) ?_
  refine fx_cSi (As := [.int a1, .int 0, .int (-1)]) (rest := []) S hG (k1640_X10_isBetween g_a1_ge_0 (by omega)) (cwS 3 S.2.2.2.2 gX10_charAt_X10_isBetween rfl rfl rfl (by decide +kernel) ⟨Nat.le_of_ble_eq_true rfl, Nat.le_of_ble_eq_true rfl⟩) rfl hl.1 rfl (Nat.le_of_ble_eq_true rfl) dX10_charAt_16 ⟨Nat.le_of_ble_eq_true rfl, Nat.le_of_ble_eq_true rfl⟩ (fun rv_1 _ H locs hp hG => ?_)
  subst rv_1
  refine lv_if_eq (tgt := 33) S.1 S.2.1 dX10_charAt_19 (by decide) (fun _ => ?_) (fun c => absurd (by decide) c)
  refine lv_aload_n S.1 S.2.1 dX10_charAt_33 rfl (lv_at hl 0 rfl) ?_
  refine lv_iconst (v := 1) S.1 S.2.1 dX10_charAt_34 (by decide) ?_
  refine fx_cVi (As := [.int 1]) (rest := []) S hG (k23_X10_fails (by omega) fu_s) fu_s rfl (cwV 1 S.2.2.2.2 gX10_charAt_X10_fails rfl rfl rfl (by decide +kernel) ⟨Nat.le_of_ble_eq_true rfl, Nat.le_of_ble_eq_true rfl⟩) rfl hl.1 rfl (Nat.le_of_ble_eq_true rfl) dX10_charAt_35 ⟨Nat.le_of_ble_eq_true rfl, Nat.le_of_ble_eq_true rfl⟩ (fun rv_2 _ H locs hp hG => ?_)
  subst rv_2
  refine lv_i2c (v := 0) S.1 S.2.1 dX10_charAt_38 (by decide) ?_
  have hG : fG N0 D vwCl (fty cI cC cL cD cII cTr cTm cIt cB) (fen ql) s (fu F (N0 + 164) (.inr (12, [.ref (N0 + 165), .int 1, .ref (N0 + 181), .int 0, .int 0, .int 0, .int (-1), .ref (ql 24), .ref (N0 + 182), .ref (N0 + 187), .ref (N0 + 208), .ref (N0 + 209), .ref (N0 + 210), .ref (N0 + 211), .ref (N0 + 212), .int 0, .ref (N0 + 213), .ref (N0 + 218), .ref (N0 + 223), .ref (N0 + 224), .ref (N0 + 225), .ref (N0 + 226), .ref (N0 + 227), .int 0, .int 0, .ref (N0 + 228), .null, .int (-1), .int 0, .int 0, .int 0]))) n H locs := hG.weak (fun a e h => by
    rcases fu_cases h with ⟨rfl, he⟩ | ⟨hne0, h⟩
    · cases he; exact fu_s
    · exact (fu_at (by omega) (fu_at (by omega) h)))
  exact fx_zret S hr (rfl) hlocks () hG (rfl) dX10_charAt_39
theorem l5_0 {p : Program} {e : Env} {s : State} {m : MethodId} {below : List Frame} {meth : Method} {c : Code} {b : Nat} {xs : Nat → Int32} {H : Heap} {locs : List Loc} {ls : Array Slot} {n : Nat} {a1 a2 a3 a4 : Int32} (g_a1_le_m1 : a1 ≤ (-1)) (S : CallFix p m c cL_law 9 s #[.ref b] wsL_law "TreeDifferLaw") (hr : meth.sig.returnType = ret) (hlocks : meth.locks = false) (hst : l.stackTraces = false) (hX : va_X b 5 xs s s.heap) (hbl : b < s.heap.size ∧ b < N0) (hN : s.heap.size = N0) (hn : N0 + 231 ≤ n) (hx1 : xs 1 = a1) (hx2 : xs 2 = a2) (hx3 : xs 3 = a3) (hx4 : xs 4 = a4) (h0 : F N0 = some (.inr (9, [.ref (N0 + 1), .ref (N0 + 2), .ref (N0 + 11), .ref (N0 + 13), .ref (N0 + 63), .ref (N0 + 65), .ref (N0 + 85), .int (-1), .int (-1), .int 32]))) (h1 : F (N0 + 164) = some (.inr (12, [.ref (N0 + 165), .int 0, .ref (N0 + 181), .int 0, .int 0, .int 0, .int (-1), .ref (ql 24), .ref (N0 + 182), .ref (N0 + 187), .ref (N0 + 208), .ref (N0 + 209), .ref (N0 + 210), .ref (N0 + 211), .ref (N0 + 212), .int 0, .ref (N0 + 213), .ref (N0 + 218), .ref (N0 + 223), .ref (N0 + 224), .ref (N0 + 225), .ref (N0 + 226), .ref (N0 + 227), .int 0, .int 0, .ref (N0 + 228), .null, .int (-1), .int 0, .int 0, .int 0]))) (hG : fG N0 D vwCl (fty cI cC cL cD cII cTr cTm cIt cB) (fen ql) s F n H locs) (hl : lv_has ls 9 [(0, .ref b), (1, .ref N0), (2, .ref (N0 + 164)), (3, .ref (N0 + 229)), (4, .ref (N0 + 230)), (5, .int 0)]) : W p l e { frames := 2048, cells := 600002, slots := 7302232, locals := 84000 } s m #[.ref b] below meth c H locs 231 4980 (lw_Z below #[.ref b] s) (F0 m 474 ls []) := by
  have lt_h0 := hG.1.lt h0
  have lt_h1 := hG.1.lt h1
  refine lv_aload_n S.1 S.2.1 dL_law_474 rfl (lv_at hl 1 rfl) ?_
  refine lv_aload_n S.1 S.2.1 dL_law_475 rfl (lv_at hl 0 rfl) ?_
  refine lv_iload S.1 S.2.1 dL_law_476 (lv_at hl 5 rfl) ?_
  refine lv_iconst (v := 1) S.1 S.2.1 dL_law_478 (by decide) ?_
  refine lv_iadd S.1 S.2.1 dL_law_479 ?_
  refine fx_topi (y := 1) (by decide) ?_
  refine gx_sld (v := a1) S hG hX hbl (fin_l (by decide)) hx1 dL_law_480 ?_
  refine lv_aload_n S.1 S.2.1 dL_law_481 rfl (lv_at hl 3 rfl) ?_
  refine fx_cTi (As := [.ref N0, .int a1, .ref (N0 + 229)]) (rest := []) S hG (k1635_L_charAt g_a1_le_m1 hst (by omega) h0) (vx_cwSW 3 S.2.2.2.2 gL_law_L_charAt rfl rfl rfl (by decide +kernel) ⟨Nat.le_of_ble_eq_true rfl, Nat.le_of_ble_eq_true rfl⟩) rfl hl.1 rfl (Nat.le_of_ble_eq_true rfl) dL_law_482 ⟨Nat.le_of_ble_eq_true rfl, Nat.le_of_ble_eq_true rfl⟩ (fun rv_u_1 u_1 H locs hp hG => ?_)
  obtain ⟨rfl, hu_1⟩ := hp
  refine W.widen (k := 232) (n := 4986) (by decide) (by decide) ?_
  refine lv_istore (lv' := [(6, .int 1), (0, .ref b), (1, .ref N0), (2, .ref (N0 + 164)), (3, .ref (N0 + 229)), (4, .ref (N0 + 230)), (5, .int 0)]) S.1 S.2.1 dL_law_485 hl (by decide) rfl (fun ls hl => ?_)
  refine lv_aload_n S.1 S.2.1 dL_law_487 rfl (lv_at hl 3 rfl) ?_
  refine lv_aload_n S.1 S.2.1 dL_law_488 rfl (lv_at hl 1 rfl) ?_
  refine lv_iload S.1 S.2.1 dL_law_489 (lv_at hl 6 rfl) ?_
  refine lv_iconst (v := 1) S.1 S.2.1 dL_law_491 (by decide) ?_
  refine lv_iadd S.1 S.2.1 dL_law_492 ?_
  refine fx_topi (y := 1) (by decide) ?_
  refine gx_sld (v := a1) S hG hX hbl (fin_l (by decide)) hx1 dL_law_493 ?_
  refine fx_cVi (As := [.int a1]) (rest := []) S hG (k1637_X10_charAt g_a1_le_m1 (by omega) h1) h1 rfl (cwV 1 S.2.2.2.2 gL_law_X10_charAt rfl rfl rfl (by decide +kernel) ⟨Nat.le_of_ble_eq_true rfl, Nat.le_of_ble_eq_true rfl⟩) rfl hl.1 rfl (Nat.le_of_ble_eq_true rfl) dL_law_494 ⟨Nat.le_of_ble_eq_true rfl, Nat.le_of_ble_eq_true rfl⟩ (fun rv_2 _ H locs hp hG => ?_)
  subst rv_2
  refine lv_istore (lv' := [(7, .int 0), (6, .int 1), (0, .ref b), (1, .ref N0), (2, .ref (N0 + 164)), (3, .ref (N0 + 229)), (4, .ref (N0 + 230)), (5, .int 0)]) S.1 S.2.1 dL_law_497 hl (by decide) rfl (fun ls hl => ?_)
  refine lv_aload_n S.1 S.2.1 dL_law_499 rfl (lv_at hl 4 rfl) ?_
  refine fx_cVi (As := []) (rest := []) S hG (k25_X10_thrown (by omega) fu_s) fu_s rfl (cwV 0 S.2.2.2.2 gL_law_X10_thrown rfl rfl rfl (by decide +kernel) ⟨Nat.le_of_ble_eq_true rfl, Nat.le_of_ble_eq_true rfl⟩) rfl hl.1 rfl (Nat.le_of_ble_eq_true rfl) dL_law_500 ⟨Nat.le_of_ble_eq_true rfl, Nat.le_of_ble_eq_true rfl⟩ (fun rv_3 _ H locs hp hG => ?_)
  subst rv_3
  refine lv_iload S.1 S.2.1 dL_law_503 (lv_at hl 1 rfl) ?_
  refine lv_icmp_eq (tgt := 510) S.1 S.2.1 dL_law_505 (by decide) (fun _ => ?_) (fun c => absurd (by decide) c)
  refine lv_iload S.1 S.2.1 dL_law_510 (lv_at hl 1 rfl) ?_
  refine lv_if_ne (tgt := 527) S.1 S.2.1 dL_law_512 (by decide) (fun _ => ?_) (fun c => absurd c (by decide))
  refine lv_goto (tgt := 2650) S.1 S.2.1 dL_law_527 (by decide) ?_
  refine lv_iinc (v := 5) (lv' := [(5, .int 5), (7, .int 0), (6, .int 1), (0, .ref b), (1, .ref N0), (2, .ref (N0 + 164)), (3, .ref (N0 + 229)), (4, .ref (N0 + 230))]) S.1 S.2.1 dL_law_2650 hl (k := 7) rfl (by decide) (by decide) rfl (fun ls hl => ?_)
  refine lv_goto (tgt := 28) S.1 S.2.1 dL_law_2653 (by decide) ?_
  refine lv_iload S.1 S.2.1 dL_law_28 (lv_at hl 0 rfl) ?_
  refine lv_aload_n S.1 S.2.1 dL_law_30 rfl (lv_at hl 3 rfl) ?_
  refine gx_slen (v := 5) S hG hX hbl rfl dL_law_31 ?_
  refine lv_iconst (v := 5) S.1 S.2.1 dL_law_32 (by decide) ?_
  refine lv_isub S.1 S.2.1 dL_law_33 ?_
  refine fx_topi (y := 0) (by decide) ?_
  refine lv_icmp_gt (tgt := 2656) S.1 S.2.1 dL_law_34 (by decide) (fun _ => ?_) (fun c => absurd (by decide) c)
  refine lv_iconst (v := 1) S.1 S.2.1 dL_law_2656 (by decide) ?_
  refine va_forget (fun q hq => by rw [hN]; exact hG.2.1.2.2 q hq) ?_
  refine W.widen (k := 600002) (n := 7302232) (by decide) (by decide) ?_
  exact lw_ret (d0 := s.drawn) (Drawn.sameBut.refl _ _) S.1 S.2.1 hr hlocks dL_law_2657
theorem l5_1 {p : Program} {e : Env} {s : State} {m : MethodId} {below : List Frame} {meth : Method} {c : Code} {b : Nat} {xs : Nat → Int32} {H : Heap} {locs : List Loc} {ls : Array Slot} {n : Nat} {a1 a2 a3 a4 : Int32} (g_a1_ge_0 : 0 ≤ a1) (S : CallFix p m c cL_law 9 s #[.ref b] wsL_law "TreeDifferLaw") (hr : meth.sig.returnType = ret) (hlocks : meth.locks = false) (hst : l.stackTraces = false) (hX : va_X b 5 xs s s.heap) (hbl : b < s.heap.size ∧ b < N0) (hN : s.heap.size = N0) (hn : N0 + 231 ≤ n) (hx1 : xs 1 = a1) (hx2 : xs 2 = a2) (hx3 : xs 3 = a3) (hx4 : xs 4 = a4) (h0 : F N0 = some (.inr (9, [.ref (N0 + 1), .ref (N0 + 2), .ref (N0 + 11), .ref (N0 + 13), .ref (N0 + 63), .ref (N0 + 65), .ref (N0 + 85), .int (-1), .int (-1), .int 32]))) (h1 : F (N0 + 11) = some (.inr (2, [.ref (N0 + 12), .int 0]))) (h2 : F (N0 + 164) = some (.inr (12, [.ref (N0 + 165), .int 0, .ref (N0 + 181), .int 0, .int 0, .int 0, .int (-1), .ref (ql 24), .ref (N0 + 182), .ref (N0 + 187), .ref (N0 + 208), .ref (N0 + 209), .ref (N0 + 210), .ref (N0 + 211), .ref (N0 + 212), .int 0, .ref (N0 + 213), .ref (N0 + 218), .ref (N0 + 223), .ref (N0 + 224), .ref (N0 + 225), .ref (N0 + 226), .ref (N0 + 227), .int 0, .int 0, .ref (N0 + 228), .null, .int (-1), .int 0, .int 0, .int 0]))) (hG : fG N0 D vwCl (fty cI cC cL cD cII cTr cTm cIt cB) (fen ql) s F n H locs) (hl : lv_has ls 9 [(0, .ref b), (1, .ref N0), (2, .ref (N0 + 164)), (3, .ref (N0 + 229)), (4, .ref (N0 + 230)), (5, .int 0)]) : W p l e { frames := 2048, cells := 600002, slots := 7302232, locals := 84000 } s m #[.ref b] below meth c H locs 231 4980 (lw_Z below #[.ref b] s) (F0 m 474 ls []) := by
  have lt_h0 := hG.1.lt h0
  have lt_h1 := hG.1.lt h1
  have lt_h2 := hG.1.lt h2
  refine lv_aload_n S.1 S.2.1 dL_law_474 rfl (lv_at hl 1 rfl) ?_
  refine lv_aload_n S.1 S.2.1 dL_law_475 rfl (lv_at hl 0 rfl) ?_
  refine lv_iload S.1 S.2.1 dL_law_476 (lv_at hl 5 rfl) ?_
  refine lv_iconst (v := 1) S.1 S.2.1 dL_law_478 (by decide) ?_
  refine lv_iadd S.1 S.2.1 dL_law_479 ?_
  refine fx_topi (y := 1) (by decide) ?_
  refine gx_sld (v := a1) S hG hX hbl (fin_l (by decide)) hx1 dL_law_480 ?_
  refine lv_aload_n S.1 S.2.1 dL_law_481 rfl (lv_at hl 3 rfl) ?_
  refine fx_cTi (As := [.ref N0, .int a1, .ref (N0 + 229)]) (rest := []) S hG (k1639_L_charAt g_a1_ge_0 hst (by omega) h0 h1) (vx_cwSW 3 S.2.2.2.2 gL_law_L_charAt rfl rfl rfl (by decide +kernel) ⟨Nat.le_of_ble_eq_true rfl, Nat.le_of_ble_eq_true rfl⟩) rfl hl.1 rfl (Nat.le_of_ble_eq_true rfl) dL_law_482 ⟨Nat.le_of_ble_eq_true rfl, Nat.le_of_ble_eq_true rfl⟩ (fun rv_u_1 u_1 H locs hp hG => ?_)
  obtain ⟨rfl, hu_1⟩ := hp
  refine W.widen (k := 232) (n := 4986) (by decide) (by decide) ?_
  refine lv_istore (lv' := [(6, .int 1), (0, .ref b), (1, .ref N0), (2, .ref (N0 + 164)), (3, .ref (N0 + 229)), (4, .ref (N0 + 230)), (5, .int 0)]) S.1 S.2.1 dL_law_485 hl (by decide) rfl (fun ls hl => ?_)
  refine lv_aload_n S.1 S.2.1 dL_law_487 rfl (lv_at hl 3 rfl) ?_
  refine lv_aload_n S.1 S.2.1 dL_law_488 rfl (lv_at hl 1 rfl) ?_
  refine lv_iload S.1 S.2.1 dL_law_489 (lv_at hl 6 rfl) ?_
  refine lv_iconst (v := 1) S.1 S.2.1 dL_law_491 (by decide) ?_
  refine lv_iadd S.1 S.2.1 dL_law_492 ?_
  refine fx_topi (y := 1) (by decide) ?_
  refine gx_sld (v := a1) S hG hX hbl (fin_l (by decide)) hx1 dL_law_493 ?_
  refine fx_cVi (As := [.int a1]) (rest := []) S hG (k1641_X10_charAt g_a1_ge_0 (by omega) h2) h2 rfl (cwV 1 S.2.2.2.2 gL_law_X10_charAt rfl rfl rfl (by decide +kernel) ⟨Nat.le_of_ble_eq_true rfl, Nat.le_of_ble_eq_true rfl⟩) rfl hl.1 rfl (Nat.le_of_ble_eq_true rfl) dL_law_494 ⟨Nat.le_of_ble_eq_true rfl, Nat.le_of_ble_eq_true rfl⟩ (fun rv_2 _ H locs hp hG => ?_)
  subst rv_2
  refine lv_istore (lv' := [(7, .int 0), (6, .int 1), (0, .ref b), (1, .ref N0), (2, .ref (N0 + 164)), (3, .ref (N0 + 229)), (4, .ref (N0 + 230)), (5, .int 0)]) S.1 S.2.1 dL_law_497 hl (by decide) rfl (fun ls hl => ?_)
  refine lv_aload_n S.1 S.2.1 dL_law_499 rfl (lv_at hl 4 rfl) ?_
  refine fx_cVi (As := []) (rest := []) S hG (k25_X10_thrown (by omega) fu_s) fu_s rfl (cwV 0 S.2.2.2.2 gL_law_X10_thrown rfl rfl rfl (by decide +kernel) ⟨Nat.le_of_ble_eq_true rfl, Nat.le_of_ble_eq_true rfl⟩) rfl hl.1 rfl (Nat.le_of_ble_eq_true rfl) dL_law_500 ⟨Nat.le_of_ble_eq_true rfl, Nat.le_of_ble_eq_true rfl⟩ (fun rv_3 _ H locs hp hG => ?_)
  subst rv_3
  refine lv_iload S.1 S.2.1 dL_law_503 (lv_at hl 1 rfl) ?_
  refine lv_icmp_eq (tgt := 510) S.1 S.2.1 dL_law_505 (by decide) (fun _ => ?_) (fun c => absurd (by decide) c)
  refine lv_iload S.1 S.2.1 dL_law_510 (lv_at hl 1 rfl) ?_
  refine lv_if_ne (tgt := 527) S.1 S.2.1 dL_law_512 (by decide) (fun _ => ?_) (fun c => absurd c (by decide))
  refine lv_goto (tgt := 2650) S.1 S.2.1 dL_law_527 (by decide) ?_
  refine lv_iinc (v := 5) (lv' := [(5, .int 5), (7, .int 0), (6, .int 1), (0, .ref b), (1, .ref N0), (2, .ref (N0 + 164)), (3, .ref (N0 + 229)), (4, .ref (N0 + 230))]) S.1 S.2.1 dL_law_2650 hl (k := 7) rfl (by decide) (by decide) rfl (fun ls hl => ?_)
  refine lv_goto (tgt := 28) S.1 S.2.1 dL_law_2653 (by decide) ?_
  refine lv_iload S.1 S.2.1 dL_law_28 (lv_at hl 0 rfl) ?_
  refine lv_aload_n S.1 S.2.1 dL_law_30 rfl (lv_at hl 3 rfl) ?_
  refine gx_slen (v := 5) S hG hX hbl rfl dL_law_31 ?_
  refine lv_iconst (v := 5) S.1 S.2.1 dL_law_32 (by decide) ?_
  refine lv_isub S.1 S.2.1 dL_law_33 ?_
  refine fx_topi (y := 0) (by decide) ?_
  refine lv_icmp_gt (tgt := 2656) S.1 S.2.1 dL_law_34 (by decide) (fun _ => ?_) (fun c => absurd (by decide) c)
  refine lv_iconst (v := 1) S.1 S.2.1 dL_law_2656 (by decide) ?_
  refine va_forget (fun q hq => by rw [hN]; exact hG.2.1.2.2 q hq) ?_
  refine W.widen (k := 600002) (n := 7302232) (by decide) (by decide) ?_
  exact lw_ret (d0 := s.drawn) (Drawn.sameBut.refl _ _) S.1 S.2.1 hr hlocks dL_law_2657
theorem case_5 {p : Program} {e : Env} {s : State} {m : MethodId} {below : List Frame} {meth : Method} {c : Code} {b : Nat} {xs : Nat → Int32} {H : Heap} {locs : List Loc} {ls : Array Slot} {n : Nat} {a1 a2 a3 a4 : Int32} (S : CallFix p m c cL_law 9 s #[.ref b] wsL_law "TreeDifferLaw") (hr : meth.sig.returnType = ret) (hlocks : meth.locks = false) (hst : l.stackTraces = false) (hX : va_X b 5 xs s s.heap) (hbl : b < s.heap.size ∧ b < N0) (hN : s.heap.size = N0) (hn : N0 + 231 ≤ n) (hx1 : xs 1 = a1) (hx2 : xs 2 = a2) (hx3 : xs 3 = a3) (hx4 : xs 4 = a4) (hL : ∀ (i : Nat) (q : Nat × va_E), (lneed N0 cI cC cL cD cII cTr cTm cIt cB ql)[i]? = some q → F (N0 + q.1) = some q.2) (hG : fG N0 D vwCl (fty cI cC cL cD cII cTr cTm cIt cB) (fen ql) s F n H locs) (hl : lv_has ls 9 [(0, .ref b), (1, .ref N0), (2, .ref (N0 + 164)), (3, .ref (N0 + 229)), (4, .ref (N0 + 230)), (5, .int 0)]) : W p l e { frames := 2048, cells := 600002, slots := 7302232, locals := 84000 } s m #[.ref b] below meth c H locs 231 4980 (lw_Z below #[.ref b] s) (F0 m 474 ls []) := by
  have hn1 := pk_nc a1
  have hf1 := pk_fc a1
  have hv1 := pk_vc a1
  obtain ⟨g_c1_ge_0, g_c1_le_65535⟩ := fl_c0 a1
  generalize hc1 : (a1.toUInt32 % 65536).toInt32 = c1 at *
  have hn2 := pk_nc a2
  have hf2 := pk_fc a2
  have hv2 := pk_vc a2
  obtain ⟨g_c2_ge_0, g_c2_le_65535⟩ := fl_c0 a2
  generalize hc2 : (a2.toUInt32 % 65536).toInt32 = c2 at *
  have hn3 := pk_nc a3
  have hf3 := pk_fc a3
  have hv3 := pk_vc a3
  obtain ⟨g_c3_ge_0, g_c3_le_65535⟩ := fl_c0 a3
  generalize hc3 : (a3.toUInt32 % 65536).toInt32 = c3 at *
  have hn4 := pk_nc a4
  have hf4 := pk_fc a4
  have hv4 := pk_vc a4
  obtain ⟨g_c4_ge_0, g_c4_le_65535⟩ := fl_c0 a4
  generalize hc4 : (a4.toUInt32 % 65536).toInt32 = c4 at *
  rcases fl_cut a1 0 (-1) (by decide) with g_a1_le_m1 | g_a1_ge_0
  · skip
    exact l5_0 g_a1_le_m1 S hr hlocks hst hX hbl hN hn hx1 hx2 hx3 hx4 (hL 0 _ rfl) (hL 4 _ rfl) hG hl
  · skip
    exact l5_1 g_a1_ge_0 S hr hlocks hst hX hbl hN hn hx1 hx2 hx3 hx4 (hL 0 _ rfl) (hL 87 _ rfl) (hL 4 _ rfl) hG hl
