theorem dX4_append_0 : decode cX4_append 0 = .ok (.aload_n 0, 1) := by decide +kernel
theorem dX4_append_1 : decode cX4_append 1 = .ok (.getfield 22, 3) := by decide +kernel
theorem dX4_append_4 : decode cX4_append 4 = .ok (.ifCond .lt 12, 3) := by decide +kernel
theorem dX4_append_7 : decode cX4_append 7 = .ok (.aload_n 0, 1) := by decide +kernel
theorem dX4_append_8 : decode cX4_append 8 = .ok (.getfield 22, 3) := by decide +kernel
theorem dX4_append_11 : decode cX4_append 11 = .ok (.bipush 80, 2) := by decide +kernel
theorem dX4_append_13 : decode cX4_append 13 = .ok (.if_icmp .lt 5, 3) := by decide +kernel
theorem dX4_append_18 : decode cX4_append 18 = .ok (.aload_n 0, 1) := by decide +kernel
theorem dX4_append_19 : decode cX4_append 19 = .ok (.getfield 9, 3) := by decide +kernel
theorem dX4_append_22 : decode cX4_append 22 = .ok (.aload_n 0, 1) := by decide +kernel
theorem dX4_append_23 : decode cX4_append 23 = .ok (.getfield 22, 3) := by decide +kernel
theorem dX4_append_26 : decode cX4_append 26 = .ok (.iload_n 1, 1) := by decide +kernel
theorem dX4_append_27 : decode cX4_append 27 = .ok (.castore, 1) := by decide +kernel
theorem dX4_append_28 : decode cX4_append 28 = .ok (.aload_n 0, 1) := by decide +kernel
theorem dX4_append_29 : decode cX4_append 29 = .ok (.dup, 1) := by decide +kernel
theorem dX4_append_30 : decode cX4_append 30 = .ok (.getfield 22, 3) := by decide +kernel
theorem dX4_append_33 : decode cX4_append 33 = .ok (.iconst 1, 1) := by decide +kernel
theorem dX4_append_34 : decode cX4_append 34 = .ok (.iadd, 1) := by decide +kernel
theorem dX4_append_35 : decode cX4_append 35 = .ok (.putfield 22, 3) := by decide +kernel
theorem dX4_append_38 : decode cX4_append 38 = .ok (.iconst 1, 1) := by decide +kernel
theorem dX4_append_39 : decode cX4_append 39 = .ok (.ireturn, 1) := by decide +kernel
theorem dX7_type_0 : decode cX7_type 0 = .ok (.aload_n 0, 1) := by decide +kernel
theorem dX7_type_1 : decode cX7_type 1 = .ok (.getfield 18, 3) := by decide +kernel
theorem dX7_type_4 : decode cX7_type 4 = .ok (.iload_n 1, 1) := by decide +kernel
set_option maxRecDepth 20000 in
theorem ggX7_type_X4_append : GoodIn wsX7_type wsX4_append := goodIn_r _ [9, 10, 11, 22, 23, 24, 25] (by decide +kernel) (by decide +kernel)
set_option maxRecDepth 20000 in
theorem gX7_type_X4_append : GoodIn wsX7_type (wsV RX7 69 RX4 yX4_append wsX4_append) := goodIn_app (goodIn_of _ (by decide +kernel)) ggX7_type_X4_append
theorem dX7_type_5 : decode cX7_type 5 = .ok (.invokevirtual 69, 3) := by decide +kernel
theorem dX7_type_8 : decode cX7_type 8 = .ok (.ifCond .ne 13, 3) := by decide +kernel
theorem dX7_type_21 : decode cX7_type 21 = .ok (.aload_n 0, 1) := by decide +kernel
theorem dX7_type_22 : decode cX7_type 22 = .ok (.getfield 18, 3) := by decide +kernel
theorem dX7_type_25 : decode cX7_type 25 = .ok (.getfield 80, 3) := by decide +kernel
theorem dX7_type_28 : decode cX7_type 28 = .ok (.ireturn, 1) := by decide +kernel
theorem dL_type_0 : decode cL_type 0 = .ok (.aload_n 2, 1) := by decide +kernel
theorem dL_type_1 : decode cL_type 1 = .ok (.iconst 0, 1) := by decide +kernel
theorem dL_type_2 : decode cL_type 2 = .ok (.aload_n 0, 1) := by decide +kernel
theorem dL_type_3 : decode cL_type 3 = .ok (.iload_n 1, 1) := by decide +kernel
set_option maxRecDepth 20000 in
theorem ggL_type_X7_type : GoodIn wsL_type wsX7_type := goodIn_ca (goodIn_r _ [6, 7, 8, 9, 10, 11, 12, 13, 14, 15, 16, 17, 18, 19, 20, 21, 22, 23, 24, 25, 26, 27, 28, 29, 30, 31] (by decide +kernel) (by decide +kernel)) (goodIn_sub (fun _ h => List.mem_cons_of_mem _ (List.mem_append_right _ h)) (by decide +kernel))
set_option maxRecDepth 20000 in
theorem gL_type_X7_type : GoodIn wsL_type (wsV RL 7 RX7 yX7_type wsX7_type) := goodIn_app (goodIn_of _ (by decide +kernel)) ggL_type_X7_type
theorem dL_type_4 : decode cL_type 4 = .ok (.invokevirtual 7, 3) := by decide +kernel
theorem dL_type_7 : decode cL_type 7 = .ok (.i2l, 1) := by decide +kernel
theorem dL_type_8 : decode cL_type 8 = .ok (.lastore, 1) := by decide +kernel
theorem dL_type_9 : decode cL_type 9 = .ok (.goto 6, 3) := by decide +kernel
theorem dL_type_15 : decode cL_type 15 = .ok (.iconst 0, 1) := by decide +kernel
theorem dL_type_16 : decode cL_type 16 = .ok (.ireturn, 1) := by decide +kernel
theorem dX10_type_0 : decode cX10_type 0 = .ok (.aload_n 0, 1) := by decide +kernel
theorem dX10_type_1 : decode cX10_type 1 = .ok (.iconst 0, 1) := by decide +kernel
theorem dX10_type_2 : decode cX10_type 2 = .ok (.putfield 105, 3) := by decide +kernel
theorem dX10_type_5 : decode cX10_type 5 = .ok (.aload_n 0, 1) := by decide +kernel
theorem dX10_type_6 : decode cX10_type 6 = .ok (.getfield 123, 3) := by decide +kernel
theorem dX10_type_9 : decode cX10_type 9 = .ok (.bipush 80, 2) := by decide +kernel
theorem dX10_type_11 : decode cX10_type 11 = .ok (.if_icmp .ne 9, 3) := by decide +kernel
theorem dX10_type_20 : decode cX10_type 20 = .ok (.aload_n 0, 1) := by decide +kernel
theorem dX10_type_21 : decode cX10_type 21 = .ok (.getfield 33, 3) := by decide +kernel
theorem dX10_type_24 : decode cX10_type 24 = .ok (.aload_n 0, 1) := by decide +kernel
theorem dX10_type_25 : decode cX10_type 25 = .ok (.getfield 123, 3) := by decide +kernel
theorem dX10_type_28 : decode cX10_type 28 = .ok (.iload_n 1, 1) := by decide +kernel
theorem dX10_type_29 : decode cX10_type 29 = .ok (.castore, 1) := by decide +kernel
theorem dX10_type_30 : decode cX10_type 30 = .ok (.aload_n 0, 1) := by decide +kernel
theorem dX10_type_31 : decode cX10_type 31 = .ok (.dup, 1) := by decide +kernel
theorem dX10_type_32 : decode cX10_type 32 = .ok (.getfield 123, 3) := by decide +kernel
theorem dX10_type_35 : decode cX10_type 35 = .ok (.iconst 1, 1) := by decide +kernel
theorem dX10_type_36 : decode cX10_type 36 = .ok (.iadd, 1) := by decide +kernel
theorem dX10_type_37 : decode cX10_type 37 = .ok (.putfield 123, 3) := by decide +kernel
theorem dX10_type_40 : decode cX10_type 40 = .ok (.aload_n 0, 1) := by decide +kernel
theorem dX10_type_41 : decode cX10_type 41 = .ok (.getfield 123, 3) := by decide +kernel
theorem dX10_type_44 : decode cX10_type 44 = .ok (.ireturn, 1) := by decide +kernel
theorem dX10_thrown_0 : decode cX10_thrown 0 = .ok (.aload_n 0, 1) := by decide +kernel
theorem dX10_thrown_1 : decode cX10_thrown 1 = .ok (.getfield 105, 3) := by decide +kernel
theorem dX10_thrown_4 : decode cX10_thrown 4 = .ok (.ireturn, 1) := by decide +kernel
theorem dL_law_216 : decode cL_law 216 = .ok (.aload_n 1, 1) := by decide +kernel
theorem dL_law_217 : decode cL_law 217 = .ok (.aload_n 0, 1) := by decide +kernel
theorem dL_law_218 : decode cL_law 218 = .ok (.iload 5, 2) := by decide +kernel
theorem dL_law_220 : decode cL_law 220 = .ok (.iconst 1, 1) := by decide +kernel
theorem dL_law_221 : decode cL_law 221 = .ok (.iadd, 1) := by decide +kernel
theorem dL_law_222 : decode cL_law 222 = .ok (.iaload, 1) := by decide +kernel
theorem dL_law_223 : decode cL_law 223 = .ok (.i2c, 1) := by decide +kernel
theorem dL_law_224 : decode cL_law 224 = .ok (.aload_n 3, 1) := by decide +kernel
set_option maxRecDepth 20000 in
theorem ggL_law_L_type : GoodIn wsL_law wsL_type := goodIn_ca (goodIn_r _ [154, 155, 156, 157, 158, 2, 159, 160, 161, 19, 162, 163, 164, 165, 18, 166, 167, 49, 1458, 1459, 1460, 1461, 1462, 1463, 1464, 1465, 1466, 1467, 1499, 1500, 1501, 1502] (by decide +kernel) (by decide +kernel)) (goodIn_sub (fun _ h => List.mem_append_left _ (List.mem_append_left _ (List.mem_append_left _ (List.mem_append_left _ (List.mem_append_right _ h))))) (by decide +kernel))
set_option maxRecDepth 20000 in
theorem gL_law_L_type : GoodIn wsL_law (va_wsS RL 150 yL_type wsL_type) := goodIn_app (goodIn_of _ (by decide +kernel)) ggL_law_L_type
theorem dL_law_225 : decode cL_law 225 = .ok (.invokestatic 150, 3) := by decide +kernel
theorem dL_law_228 : decode cL_law 228 = .ok (.istore 6, 2) := by decide +kernel
theorem dL_law_230 : decode cL_law 230 = .ok (.aload_n 2, 1) := by decide +kernel
theorem dL_law_231 : decode cL_law 231 = .ok (.aload_n 0, 1) := by decide +kernel
theorem dL_law_232 : decode cL_law 232 = .ok (.iload 5, 2) := by decide +kernel
theorem dL_law_234 : decode cL_law 234 = .ok (.iconst 1, 1) := by decide +kernel
theorem dL_law_235 : decode cL_law 235 = .ok (.iadd, 1) := by decide +kernel
theorem dL_law_236 : decode cL_law 236 = .ok (.iaload, 1) := by decide +kernel
theorem dL_law_237 : decode cL_law 237 = .ok (.i2c, 1) := by decide +kernel
set_option maxRecDepth 20000 in
theorem ggL_law_X10_type : GoodIn wsL_law wsX10_type := goodIn_r _ [171, 172, 173, 115, 174, 175, 176, 5, 177, 1468, 1469, 1470, 1471, 1472, 1473, 1474, 1475, 1476, 1477, 1478, 1479, 1480, 1481, 1482, 1483, 1484, 1485, 1486, 1487, 1488, 1489, 1490, 1491, 1492, 1493, 1494, 1495, 1496, 1497, 1498] (by decide +kernel) (by decide +kernel)
set_option maxRecDepth 20000 in
theorem gL_law_X10_type : GoodIn wsL_law (wsV RL 155 RX10 yX10_type wsX10_type) := goodIn_app (goodIn_of _ (by decide +kernel)) ggL_law_X10_type
theorem dL_law_238 : decode cL_law 238 = .ok (.invokevirtual 155, 3) := by decide +kernel
theorem dL_law_241 : decode cL_law 241 = .ok (.istore 7, 2) := by decide +kernel
theorem dL_law_243 : decode cL_law 243 = .ok (.aload_n 2, 1) := by decide +kernel
set_option maxRecDepth 20000 in
theorem ggL_law_X10_thrown : GoodIn wsL_law wsX10_thrown := goodIn_r _ [181, 172, 1468, 1469, 1470, 1471, 1472, 1473, 1474, 1475, 1476, 1477, 1478, 1479, 1480, 1481, 1482, 1483, 1484, 1485, 1486, 1487, 1488, 1489, 1490, 1491, 1492, 1493, 1494, 1495, 1496, 1497, 1498] (by decide +kernel) (by decide +kernel)
set_option maxRecDepth 20000 in
theorem gL_law_X10_thrown : GoodIn wsL_law (wsV RL 156 RX10 yX10_thrown wsX10_thrown) := goodIn_app (goodIn_of _ (by decide +kernel)) ggL_law_X10_thrown
theorem dL_law_244 : decode cL_law 244 = .ok (.invokevirtual 156, 3) := by decide +kernel
theorem dL_law_247 : decode cL_law 247 = .ok (.iload 6, 2) := by decide +kernel
theorem dL_law_249 : decode cL_law 249 = .ok (.if_icmp .eq 5, 3) := by decide +kernel
theorem dL_law_254 : decode cL_law 254 = .ok (.iload 6, 2) := by decide +kernel
theorem dL_law_256 : decode cL_law 256 = .ok (.ifCond .ne 15, 3) := by decide +kernel
theorem dL_law_259 : decode cL_law 259 = .ok (.aload_n 3, 1) := by decide +kernel
theorem dL_law_260 : decode cL_law 260 = .ok (.iconst 0, 1) := by decide +kernel
theorem dL_law_261 : decode cL_law 261 = .ok (.laload, 1) := by decide +kernel
theorem dL_law_262 : decode cL_law 262 = .ok (.iload 7, 2) := by decide +kernel
theorem dL_law_264 : decode cL_law 264 = .ok (.i2l, 1) := by decide +kernel
theorem dL_law_265 : decode cL_law 265 = .ok (.lcmp, 1) := by decide +kernel
theorem dL_law_266 : decode cL_law 266 = .ok (.ifCond .eq 5, 3) := by decide +kernel
theorem dL_law_271 : decode cL_law 271 = .ok (.goto 2379, 3) := by decide +kernel
theorem dL_law_2650 : decode cL_law 2650 = .ok (.iinc 5 5, 3) := by decide +kernel
theorem dL_law_2653 : decode cL_law 2653 = .ok (.goto (-2625), 3) := by decide +kernel
theorem dL_law_28 : decode cL_law 28 = .ok (.iload 5, 2) := by decide +kernel
theorem dL_law_30 : decode cL_law 30 = .ok (.aload_n 0, 1) := by decide +kernel
theorem dL_law_31 : decode cL_law 31 = .ok (.arraylength, 1) := by decide +kernel
theorem dL_law_32 : decode cL_law 32 = .ok (.iconst 5, 1) := by decide +kernel
theorem dL_law_33 : decode cL_law 33 = .ok (.isub, 1) := by decide +kernel
theorem dL_law_34 : decode cL_law 34 = .ok (.if_icmp .gt 2622, 3) := by decide +kernel
theorem dL_law_2656 : decode cL_law 2656 = .ok (.iconst 1, 1) := by decide +kernel
theorem dL_law_2657 : decode cL_law 2657 = .ok (.ireturn, 1) := by decide +kernel
variable {l : Launch} {N0 : Nat} {D : va_G} {cI cC cL cD cII cTr cTm cIt cB : ClassId} {F : Nat → Option va_E} {ql : Nat → Nat}
theorem i_X4_append_X4 : ∀ w ∈ u_ws RX4 TX4 4, w ∈ wsX4_append := by decide +kernel
theorem k13_X4_append {n : Nat} {c1 : Int32} (hv1 : vp_nar .char c1 = c1) (hn : N0 + 231 ≤ n) (h0 : F (N0 + 2) = some (.inr (6, [.ref (N0 + 3), .int 0, .int 0, .ref (N0 + 4)]))) (h1 : F (N0 + 3) = some (.inl (cC, 80, .inl (fun _ => 0)))) : Met l yX4_append wsX4_append ({ frames := 0, cells := 0, slots := 0, locals := 0 }) (va_Pc [.ref (N0 + 2), .int c1] (fP N0 D vwCl (fty cI cC cL cD cII cTr cTm cIt cB) (fen ql) F n)) (fQi N0 D vwCl (fty cI cC cL cD cII cTr cTm cIt cB) (fun (r : Int32) (_ : Unit) => r = 1) (fun _ => (fu (fu F (N0 + 3) (.inl (cC, 80, .inl (upd (fun _ => 0) 0 c1)))) (N0 + 2) (.inr (6, [.ref (N0 + 3), .int 1, .int 0, .ref (N0 + 4)])))) (fun _ => n)) 0 0 (fA N0) := by
  refine fx_start 2 rfl rfl (Nat.le_of_ble_eq_true rfl) ?_ rfl
  intro p e s m below meth c ls S hr hlocks hin hG hl
  have hl : lv_has ls 2 [(0, .ref (N0 + 2)), (1, .int c1)] := hl
  have lt_h0 := hG.1.lt h0
  have lt_h1 := hG.1.lt h1
  refine lv_aload_n S.1 S.2.1 dX4_append_0 rfl (lv_at hl 0 rfl) ?_
  refine gx_get (C := RX4) (T := TX4) (N := 4) S hG h0 i_X4_append_X4 rfl 1 (by decide) (by decide +kernel) rfl dX4_append_1 ?_
  refine lv_if_lt (tgt := 16) S.1 S.2.1 dX4_append_4 (by decide) (fun c => absurd c (by decide)) (fun _ => ?_)
  refine lv_aload_n S.1 S.2.1 dX4_append_7 rfl (lv_at hl 0 rfl) ?_
  refine gx_get (C := RX4) (T := TX4) (N := 4) S hG h0 i_X4_append_X4 rfl 1 (by decide) (by decide +kernel) rfl dX4_append_8 ?_
  refine lv_bipush (v := 80) S.1 S.2.1 dX4_append_11 (by decide) ?_
  refine lv_icmp_lt (tgt := 18) S.1 S.2.1 dX4_append_13 (by decide) (fun _ => ?_) (fun c => absurd (by decide) c)
  refine lv_aload_n S.1 S.2.1 dX4_append_18 rfl (lv_at hl 0 rfl) ?_
  refine gx_get (C := RX4) (T := TX4) (N := 4) S hG h0 i_X4_append_X4 rfl 0 (by decide) (by decide +kernel) rfl dX4_append_19 ?_
  refine lv_aload_n S.1 S.2.1 dX4_append_22 rfl (lv_at hl 0 rfl) ?_
  refine gx_get (C := RX4) (T := TX4) (N := 4) S hG h0 i_X4_append_X4 rfl 1 (by decide) (by decide +kernel) rfl dX4_append_23 ?_
  refine lv_iload_n S.1 S.2.1 dX4_append_26 rfl (lv_at hl 1 rfl) ?_
  refine gx_cast (f' := upd (fun _ => 0) 0 c1) S hG 1 h1 rfl (fin_l (by decide)) dX4_append_27 (by rw [hv1]; rfl) (fun H locs hG => ?_)
  refine lv_aload_n S.1 S.2.1 dX4_append_28 rfl (lv_at hl 0 rfl) ?_
  refine lv_dup S.1 S.2.1 dX4_append_29 rfl ?_
  refine gx_get (C := RX4) (T := TX4) (N := 4) S hG (fu_at (by omega) h0) i_X4_append_X4 rfl 1 (by decide) (by decide +kernel) rfl dX4_append_30 ?_
  refine lv_iconst (v := 1) S.1 S.2.1 dX4_append_33 (by decide) ?_
  refine lv_iadd S.1 S.2.1 dX4_append_34 ?_
  refine fx_topi (y := 1) (by decide) ?_
  refine gx_put (C := RX4) (T := TX4) (N := 4) (ty := .int) (v := .int 1) (fs' := [.ref (N0 + 3), .int 1, .int 0, .ref (N0 + 4)]) S hG (fu_at (by omega) h0) i_X4_append_X4 rfl 1 (by decide) tyX4 tyX4_ok nmX4 (by decide +kernel) rfl (by decide +kernel) rfl rfl (Nat.le_of_ble_eq_true rfl) rfl dX4_append_35 (fun H locs hG => ?_)
  refine lv_iconst (v := 1) S.1 S.2.1 dX4_append_38 (by decide) ?_
  exact fx_zret S hr (rfl) hlocks () hG (rfl) dX4_append_39
theorem i_X7_type_X4 : ∀ w ∈ u_ws RX4 TX4 4, w ∈ wsX7_type := by decide +kernel
theorem i_X7_type_X7 : ∀ w ∈ u_ws RX7 TX7 10, w ∈ wsX7_type := by decide +kernel
theorem k14_X7_type {n : Nat} {c1 : Int32} (hv1 : vp_nar .char c1 = c1) (hn : N0 + 231 ≤ n) (h0 : F N0 = some (.inr (9, [.ref (N0 + 1), .ref (N0 + 2), .ref (N0 + 11), .ref (N0 + 13), .ref (N0 + 63), .ref (N0 + 65), .ref (N0 + 85), .int (-1), .int (-1), .int 32]))) (h1 : F (N0 + 2) = some (.inr (6, [.ref (N0 + 3), .int 0, .int 0, .ref (N0 + 4)]))) (h2 : F (N0 + 3) = some (.inl (cC, 80, .inl (fun _ => 0)))) : Met l yX7_type wsX7_type ({ frames := 1, cells := 0, slots := 0, locals := 21 }) (va_Pc [.ref N0, .int c1] (fP N0 D vwCl (fty cI cC cL cD cII cTr cTm cIt cB) (fen ql) F n)) (fQi N0 D vwCl (fty cI cC cL cD cII cTr cTm cIt cB) (fun (r : Int32) (_ : Unit) => r = 1) (fun _ => (fu (fu F (N0 + 3) (.inl (cC, 80, .inl (upd (fun _ => 0) 0 c1)))) (N0 + 2) (.inr (6, [.ref (N0 + 3), .int 1, .int 0, .ref (N0 + 4)])))) (fun _ => n)) 0 0 (fA N0) := by
  refine fx_start 2 rfl rfl (Nat.le_of_ble_eq_true rfl) ?_ rfl
  intro p e s m below meth c ls S hr hlocks hin hG hl
  have hl : lv_has ls 2 [(0, .ref N0), (1, .int c1)] := hl
  have lt_h0 := hG.1.lt h0
  have lt_h1 := hG.1.lt h1
  have lt_h2 := hG.1.lt h2
  refine lv_aload_n S.1 S.2.1 dX7_type_0 rfl (lv_at hl 0 rfl) ?_
  refine gx_get (C := RX7) (T := TX7) (N := 10) S hG h0 i_X7_type_X7 rfl 1 (by decide) (by decide +kernel) rfl dX7_type_1 ?_
  refine lv_iload_n S.1 S.2.1 dX7_type_4 rfl (lv_at hl 1 rfl) ?_
  refine fx_cVi (As := [.int c1]) (rest := []) S hG (k13_X4_append hv1 (by omega) h1 h2) h1 rfl (cwV 1 S.2.2.2.2 gX7_type_X4_append rfl rfl rfl (by decide +kernel) ⟨Nat.le_of_ble_eq_true rfl, Nat.le_of_ble_eq_true rfl⟩) rfl hl.1 rfl (Nat.le_of_ble_eq_true rfl) dX7_type_5 ⟨Nat.le_of_ble_eq_true rfl, Nat.le_of_ble_eq_true rfl⟩ (fun rv_1 _ H locs hp hG => ?_)
  subst rv_1
  refine lv_if_ne (tgt := 21) S.1 S.2.1 dX7_type_8 (by decide) (fun _ => ?_) (fun c => absurd c (by decide))
  refine lv_aload_n S.1 S.2.1 dX7_type_21 rfl (lv_at hl 0 rfl) ?_
  refine gx_get (C := RX7) (T := TX7) (N := 10) S hG (fu_at (by omega) (fu_at (by omega) h0)) i_X7_type_X7 rfl 1 (by decide) (by decide +kernel) rfl dX7_type_22 ?_
  refine gx_get (C := RX4) (T := TX4) (N := 4) S hG fu_s i_X7_type_X4 rfl 1 (by decide) (by decide +kernel) rfl dX7_type_25 ?_
  exact fx_iret S hr hlocks () hG (rfl) dX7_type_28
theorem k15_L_type {n : Nat} {c1 : Int32} (hv1 : vp_nar .char c1 = c1) (hn : N0 + 231 ≤ n) (h0 : F N0 = some (.inr (9, [.ref (N0 + 1), .ref (N0 + 2), .ref (N0 + 11), .ref (N0 + 13), .ref (N0 + 63), .ref (N0 + 65), .ref (N0 + 85), .int (-1), .int (-1), .int 32]))) (h1 : F (N0 + 2) = some (.inr (6, [.ref (N0 + 3), .int 0, .int 0, .ref (N0 + 4)]))) (h2 : F (N0 + 3) = some (.inl (cC, 80, .inl (fun _ => 0)))) (h3 : F (N0 + 229) = some (.inl (cL, 1, .inr (.inl (fun _ => 0))))) : Met l yL_type wsL_type ({ frames := 2, cells := 0, slots := 0, locals := 42 }) (va_Pc [.ref N0, .int c1, .ref (N0 + 229)] (fP N0 D vwCl (fty cI cC cL cD cII cTr cTm cIt cB) (fen ql) F n)) (fQi N0 D vwCl (fty cI cC cL cD cII cTr cTm cIt cB) (fun (r : Int32) (_ : Unit) => r = 0) (fun _ => (fu (fu (fu F (N0 + 3) (.inl (cC, 80, .inl (upd (fun _ => 0) 0 c1)))) (N0 + 2) (.inr (6, [.ref (N0 + 3), .int 1, .int 0, .ref (N0 + 4)]))) (N0 + 229) (.inl (cL, 1, .inr (.inl (vp_updL (fun _ => 0) 0 1)))))) (fun _ => n)) 0 0 (fA N0) := by
  refine fx_startW (hh := [(0, 9, 12, 13)]) 4 rfl rfl (Nat.le_of_ble_eq_true rfl) ?_ rfl
  intro p e s m below meth c ls S htab hr hlocks hG hl
  have hl : lv_has ls 4 [(0, .ref N0), (1, .int c1), (2, .ref (N0 + 229))] := hl
  have lt_h0 := hG.1.lt h0
  have lt_h1 := hG.1.lt h1
  have lt_h2 := hG.1.lt h2
  have lt_h3 := hG.1.lt h3
  refine lv_aload_n S.1 S.2.1 dL_type_0 rfl (lv_at hl 2 rfl) ?_
  refine lv_iconst (v := 0) S.1 S.2.1 dL_type_1 (by decide) ?_
  refine lv_aload_n S.1 S.2.1 dL_type_2 rfl (lv_at hl 0 rfl) ?_
  refine lv_iload_n S.1 S.2.1 dL_type_3 rfl (lv_at hl 1 rfl) ?_
  refine fx_cVi (As := [.int c1]) (rest := [.int 0, .ref (N0 + 229)]) S hG (k14_X7_type hv1 (by omega) h0 h1 h2) h0 rfl (cwV 1 S.2.2.2.2 gL_type_X7_type rfl rfl rfl (by decide +kernel) ⟨Nat.le_of_ble_eq_true rfl, Nat.le_of_ble_eq_true rfl⟩) rfl hl.1 rfl (Nat.le_of_ble_eq_true rfl) dL_type_4 ⟨Nat.le_of_ble_eq_true rfl, Nat.le_of_ble_eq_true rfl⟩ (fun rv_1 _ H locs hp hG => ?_)
  subst rv_1
  refine lv_i2l (v := 1) S.1 S.2.1 dL_type_7 (by decide) ?_
  refine gx_last (f' := vp_updL (fun _ => 0) 0 1) S hG 2 (fu_at (by omega) (fu_at (by omega) h3)) rfl (fin_l (by decide)) dL_type_8 rfl (fun H locs hG => ?_)
  refine lv_goto (tgt := 15) S.1 S.2.1 dL_type_9 (by decide) ?_
  refine lv_iconst (v := 0) S.1 S.2.1 dL_type_15 (by decide) ?_
  exact fx_iret S hr hlocks () hG (rfl) dL_type_16
theorem i_X10_type_X10 : ∀ w ∈ u_ws RX10 TX10 31, w ∈ wsX10_type := by decide +kernel
theorem k16_X10_type {n : Nat} {c1 : Int32} (hv1 : vp_nar .char c1 = c1) (hn : N0 + 231 ≤ n) (h0 : F (N0 + 164) = some (.inr (12, [.ref (N0 + 165), .int 0, .ref (N0 + 181), .int 0, .int 0, .int 0, .int (-1), .ref (ql 24), .ref (N0 + 182), .ref (N0 + 187), .ref (N0 + 208), .ref (N0 + 209), .ref (N0 + 210), .ref (N0 + 211), .ref (N0 + 212), .int 0, .ref (N0 + 213), .ref (N0 + 218), .ref (N0 + 223), .ref (N0 + 224), .ref (N0 + 225), .ref (N0 + 226), .ref (N0 + 227), .int 0, .int 0, .ref (N0 + 228), .null, .int (-1), .int 0, .int 0, .int 0]))) (h1 : F (N0 + 181) = some (.inl (cC, 80, .inl (fun _ => 0)))) : Met l yX10_type wsX10_type ({ frames := 0, cells := 0, slots := 0, locals := 0 }) (va_Pc [.ref (N0 + 164), .int c1] (fP N0 D vwCl (fty cI cC cL cD cII cTr cTm cIt cB) (fen ql) F n)) (fQi N0 D vwCl (fty cI cC cL cD cII cTr cTm cIt cB) (fun (r : Int32) (_ : Unit) => r = 1) (fun _ => (fu (fu F (N0 + 181) (.inl (cC, 80, .inl (upd (fun _ => 0) 0 c1)))) (N0 + 164) (.inr (12, [.ref (N0 + 165), .int 0, .ref (N0 + 181), .int 1, .int 0, .int 0, .int (-1), .ref (ql 24), .ref (N0 + 182), .ref (N0 + 187), .ref (N0 + 208), .ref (N0 + 209), .ref (N0 + 210), .ref (N0 + 211), .ref (N0 + 212), .int 0, .ref (N0 + 213), .ref (N0 + 218), .ref (N0 + 223), .ref (N0 + 224), .ref (N0 + 225), .ref (N0 + 226), .ref (N0 + 227), .int 0, .int 0, .ref (N0 + 228), .null, .int (-1), .int 0, .int 0, .int 0])))) (fun _ => n)) 0 0 (fA N0) := by
  refine fx_start 2 rfl rfl (Nat.le_of_ble_eq_true rfl) ?_ rfl
  intro p e s m below meth c ls S hr hlocks hin hG hl
  have hl : lv_has ls 2 [(0, .ref (N0 + 164)), (1, .int c1)] := hl
  have lt_h0 := hG.1.lt h0
  have lt_h1 := hG.1.lt h1
  refine lv_aload_n S.1 S.2.1 dX10_type_0 rfl (lv_at hl 0 rfl) ?_
  refine lv_iconst (v := 0) S.1 S.2.1 dX10_type_1 (by decide) ?_
  refine gx_put (C := RX10) (T := TX10) (N := 31) (ty := .int) (v := .int 0) (fs' := [.ref (N0 + 165), .int 0, .ref (N0 + 181), .int 0, .int 0, .int 0, .int (-1), .ref (ql 24), .ref (N0 + 182), .ref (N0 + 187), .ref (N0 + 208), .ref (N0 + 209), .ref (N0 + 210), .ref (N0 + 211), .ref (N0 + 212), .int 0, .ref (N0 + 213), .ref (N0 + 218), .ref (N0 + 223), .ref (N0 + 224), .ref (N0 + 225), .ref (N0 + 226), .ref (N0 + 227), .int 0, .int 0, .ref (N0 + 228), .null, .int (-1), .int 0, .int 0, .int 0]) S hG h0 i_X10_type_X10 rfl 1 (by decide) tyX10 tyX10_ok nmX10 (by decide +kernel) rfl (by decide +kernel) rfl rfl (Nat.le_of_ble_eq_true rfl) rfl dX10_type_2 (fun H locs hG => ?_)
  refine lv_aload_n S.1 S.2.1 dX10_type_5 rfl (lv_at hl 0 rfl) ?_
  refine gx_get (C := RX10) (T := TX10) (N := 31) S hG fu_s i_X10_type_X10 rfl 3 (by decide) (by decide +kernel) rfl dX10_type_6 ?_
  refine lv_bipush (v := 80) S.1 S.2.1 dX10_type_9 (by decide) ?_
  refine lv_icmp_ne (tgt := 20) S.1 S.2.1 dX10_type_11 (by decide) (fun _ => ?_) (fun c => absurd c (by decide))
  refine lv_aload_n S.1 S.2.1 dX10_type_20 rfl (lv_at hl 0 rfl) ?_
  refine gx_get (C := RX10) (T := TX10) (N := 31) S hG fu_s i_X10_type_X10 rfl 2 (by decide) (by decide +kernel) rfl dX10_type_21 ?_
  refine lv_aload_n S.1 S.2.1 dX10_type_24 rfl (lv_at hl 0 rfl) ?_
  refine gx_get (C := RX10) (T := TX10) (N := 31) S hG fu_s i_X10_type_X10 rfl 3 (by decide) (by decide +kernel) rfl dX10_type_25 ?_
  refine lv_iload_n S.1 S.2.1 dX10_type_28 rfl (lv_at hl 1 rfl) ?_
  refine gx_cast (f' := upd (fun _ => 0) 0 c1) S hG 1 (fu_at (by omega) h1) rfl (fin_l (by decide)) dX10_type_29 (by rw [hv1]; rfl) (fun H locs hG => ?_)
  refine lv_aload_n S.1 S.2.1 dX10_type_30 rfl (lv_at hl 0 rfl) ?_
  refine lv_dup S.1 S.2.1 dX10_type_31 rfl ?_
  refine gx_get (C := RX10) (T := TX10) (N := 31) S hG (fu_at (by omega) fu_s) i_X10_type_X10 rfl 3 (by decide) (by decide +kernel) rfl dX10_type_32 ?_
  refine lv_iconst (v := 1) S.1 S.2.1 dX10_type_35 (by decide) ?_
  refine lv_iadd S.1 S.2.1 dX10_type_36 ?_
  refine fx_topi (y := 1) (by decide) ?_
  refine gx_put (C := RX10) (T := TX10) (N := 31) (ty := .int) (v := .int 1) (fs' := [.ref (N0 + 165), .int 0, .ref (N0 + 181), .int 1, .int 0, .int 0, .int (-1), .ref (ql 24), .ref (N0 + 182), .ref (N0 + 187), .ref (N0 + 208), .ref (N0 + 209), .ref (N0 + 210), .ref (N0 + 211), .ref (N0 + 212), .int 0, .ref (N0 + 213), .ref (N0 + 218), .ref (N0 + 223), .ref (N0 + 224), .ref (N0 + 225), .ref (N0 + 226), .ref (N0 + 227), .int 0, .int 0, .ref (N0 + 228), .null, .int (-1), .int 0, .int 0, .int 0]) S hG (fu_at (by omega) fu_s) i_X10_type_X10 rfl 3 (by decide) tyX10 tyX10_ok nmX10 (by decide +kernel) rfl (by decide +kernel) rfl rfl (Nat.le_of_ble_eq_true rfl) rfl dX10_type_37 (fun H locs hG => ?_)
  refine lv_aload_n S.1 S.2.1 dX10_type_40 rfl (lv_at hl 0 rfl) ?_
  refine gx_get (C := RX10) (T := TX10) (N := 31) S hG fu_s i_X10_type_X10 rfl 3 (by decide) (by decide +kernel) rfl dX10_type_41 ?_
  have hG : fG N0 D vwCl (fty cI cC cL cD cII cTr cTm cIt cB) (fen ql) s (fu (fu F (N0 + 181) (.inl (cC, 80, .inl (upd (fun _ => 0) 0 c1)))) (N0 + 164) (.inr (12, [.ref (N0 + 165), .int 0, .ref (N0 + 181), .int 1, .int 0, .int 0, .int (-1), .ref (ql 24), .ref (N0 + 182), .ref (N0 + 187), .ref (N0 + 208), .ref (N0 + 209), .ref (N0 + 210), .ref (N0 + 211), .ref (N0 + 212), .int 0, .ref (N0 + 213), .ref (N0 + 218), .ref (N0 + 223), .ref (N0 + 224), .ref (N0 + 225), .ref (N0 + 226), .ref (N0 + 227), .int 0, .int 0, .ref (N0 + 228), .null, .int (-1), .int 0, .int 0, .int 0]))) n H locs := hG.weak (fun a e h => by
    rcases fu_cases h with ⟨rfl, he⟩ | ⟨hne0, h⟩
    · cases he; exact fu_s
    · skip
      rcases fu_cases h with ⟨rfl, he⟩ | ⟨hne1, h⟩
      · cases he; exact (fu_at (by omega) fu_s)
      · exact (fu_at (by omega) (fu_at (by omega) (fu_at (by omega) h))))
  exact fx_iret S hr hlocks () hG (rfl) dX10_type_44
theorem i_X10_thrown_X10 : ∀ w ∈ u_ws RX10 TX10 31, w ∈ wsX10_thrown := by decide +kernel
theorem k17_X10_thrown {n : Nat} (hn : N0 + 231 ≤ n) (h0 : F (N0 + 164) = some (.inr (12, [.ref (N0 + 165), .int 0, .ref (N0 + 181), .int 1, .int 0, .int 0, .int (-1), .ref (ql 24), .ref (N0 + 182), .ref (N0 + 187), .ref (N0 + 208), .ref (N0 + 209), .ref (N0 + 210), .ref (N0 + 211), .ref (N0 + 212), .int 0, .ref (N0 + 213), .ref (N0 + 218), .ref (N0 + 223), .ref (N0 + 224), .ref (N0 + 225), .ref (N0 + 226), .ref (N0 + 227), .int 0, .int 0, .ref (N0 + 228), .null, .int (-1), .int 0, .int 0, .int 0]))) : Met l yX10_thrown wsX10_thrown ({ frames := 0, cells := 0, slots := 0, locals := 0 }) (va_Pc [.ref (N0 + 164)] (fP N0 D vwCl (fty cI cC cL cD cII cTr cTm cIt cB) (fen ql) F n)) (fQi N0 D vwCl (fty cI cC cL cD cII cTr cTm cIt cB) (fun (r : Int32) (_ : Unit) => r = 0) (fun _ => F) (fun _ => n)) 0 0 (fA N0) := by
  refine fx_start 1 rfl rfl (Nat.le_of_ble_eq_true rfl) ?_ rfl
  intro p e s m below meth c ls S hr hlocks hin hG hl
  have hl : lv_has ls 1 [(0, .ref (N0 + 164))] := hl
  have lt_h0 := hG.1.lt h0
  refine lv_aload_n S.1 S.2.1 dX10_thrown_0 rfl (lv_at hl 0 rfl) ?_
  refine gx_get (C := RX10) (T := TX10) (N := 31) S hG h0 i_X10_thrown_X10 rfl 1 (by decide) (by decide +kernel) rfl dX10_thrown_1 ?_
  exact fx_iret S hr hlocks () hG (rfl) dX10_thrown_4
theorem l0_0 {p : Program} {e : Env} {s : State} {m : MethodId} {below : List Frame} {meth : Method} {c : Code} {b : Nat} {xs : Nat → Int32} {H : Heap} {locs : List Loc} {ls : Array Slot} {n : Nat} {a1 c1 a2 a3 a4 : Int32} (hc1 : (a1.toUInt32 % 65536).toInt32 = c1) (hv1 : vp_nar .char c1 = c1) (S : CallFix p m c cL_law 9 s #[.ref b] wsL_law "TreeDifferLaw") (hr : meth.sig.returnType = ret) (hlocks : meth.locks = false) (hst : l.stackTraces = false) (hX : va_X b 5 xs s s.heap) (hbl : b < s.heap.size ∧ b < N0) (hN : s.heap.size = N0) (hn : N0 + 231 ≤ n) (hx1 : xs 1 = a1) (hx2 : xs 2 = a2) (hx3 : xs 3 = a3) (hx4 : xs 4 = a4) (h0 : F N0 = some (.inr (9, [.ref (N0 + 1), .ref (N0 + 2), .ref (N0 + 11), .ref (N0 + 13), .ref (N0 + 63), .ref (N0 + 65), .ref (N0 + 85), .int (-1), .int (-1), .int 32]))) (h1 : F (N0 + 2) = some (.inr (6, [.ref (N0 + 3), .int 0, .int 0, .ref (N0 + 4)]))) (h2 : F (N0 + 3) = some (.inl (cC, 80, .inl (fun _ => 0)))) (h3 : F (N0 + 229) = some (.inl (cL, 1, .inr (.inl (fun _ => 0))))) (h4 : F (N0 + 164) = some (.inr (12, [.ref (N0 + 165), .int 0, .ref (N0 + 181), .int 0, .int 0, .int 0, .int (-1), .ref (ql 24), .ref (N0 + 182), .ref (N0 + 187), .ref (N0 + 208), .ref (N0 + 209), .ref (N0 + 210), .ref (N0 + 211), .ref (N0 + 212), .int 0, .ref (N0 + 213), .ref (N0 + 218), .ref (N0 + 223), .ref (N0 + 224), .ref (N0 + 225), .ref (N0 + 226), .ref (N0 + 227), .int 0, .int 0, .ref (N0 + 228), .null, .int (-1), .int 0, .int 0, .int 0]))) (h5 : F (N0 + 181) = some (.inl (cC, 80, .inl (fun _ => 0)))) (hG : fG N0 D vwCl (fty cI cC cL cD cII cTr cTm cIt cB) (fen ql) s F n H locs) (hl : lv_has ls 9 [(0, .ref b), (1, .ref N0), (2, .ref (N0 + 164)), (3, .ref (N0 + 229)), (4, .ref (N0 + 230)), (5, .int 0)]) : W p l e { frames := 2048, cells := 600002, slots := 7302232, locals := 84000 } s m #[.ref b] below meth c H locs 231 4980 (lw_Z below #[.ref b] s) (F0 m 216 ls []) := by
  have lt_h0 := hG.1.lt h0
  have lt_h1 := hG.1.lt h1
  have lt_h2 := hG.1.lt h2
  have lt_h3 := hG.1.lt h3
  have lt_h4 := hG.1.lt h4
  have lt_h5 := hG.1.lt h5
  refine lv_aload_n S.1 S.2.1 dL_law_216 rfl (lv_at hl 1 rfl) ?_
  refine lv_aload_n S.1 S.2.1 dL_law_217 rfl (lv_at hl 0 rfl) ?_
  refine lv_iload S.1 S.2.1 dL_law_218 (lv_at hl 5 rfl) ?_
  refine lv_iconst (v := 1) S.1 S.2.1 dL_law_220 (by decide) ?_
  refine lv_iadd S.1 S.2.1 dL_law_221 ?_
  refine fx_topi (y := 1) (by decide) ?_
  refine gx_sld (v := a1) S hG hX hbl (fin_l (by decide)) hx1 dL_law_222 ?_
  refine lv_i2c (v := c1) S.1 S.2.1 dL_law_223 hc1 ?_
  refine lv_aload_n S.1 S.2.1 dL_law_224 rfl (lv_at hl 3 rfl) ?_
  refine fx_cTi (As := [.ref N0, .int c1, .ref (N0 + 229)]) (rest := []) S hG (k15_L_type hv1 (by omega) h0 h1 h2 h3) (vx_cwSW 3 S.2.2.2.2 gL_law_L_type rfl rfl rfl (by decide +kernel) ⟨Nat.le_of_ble_eq_true rfl, Nat.le_of_ble_eq_true rfl⟩) rfl hl.1 rfl (Nat.le_of_ble_eq_true rfl) dL_law_225 ⟨Nat.le_of_ble_eq_true rfl, Nat.le_of_ble_eq_true rfl⟩ (fun rv_1 _ H locs hp hG => ?_)
  subst rv_1
  refine lv_istore (lv' := [(6, .int 0), (0, .ref b), (1, .ref N0), (2, .ref (N0 + 164)), (3, .ref (N0 + 229)), (4, .ref (N0 + 230)), (5, .int 0)]) S.1 S.2.1 dL_law_228 hl (by decide) rfl (fun ls hl => ?_)
  refine lv_aload_n S.1 S.2.1 dL_law_230 rfl (lv_at hl 3 rfl) ?_
  refine lv_aload_n S.1 S.2.1 dL_law_231 rfl (lv_at hl 1 rfl) ?_
  refine lv_iload S.1 S.2.1 dL_law_232 (lv_at hl 6 rfl) ?_
  refine lv_iconst (v := 1) S.1 S.2.1 dL_law_234 (by decide) ?_
  refine lv_iadd S.1 S.2.1 dL_law_235 ?_
  refine fx_topi (y := 1) (by decide) ?_
  refine gx_sld (v := a1) S hG hX hbl (fin_l (by decide)) hx1 dL_law_236 ?_
  refine lv_i2c (v := c1) S.1 S.2.1 dL_law_237 hc1 ?_
  refine fx_cVi (As := [.int c1]) (rest := []) S hG (k16_X10_type hv1 (by omega) (fu_at (by omega) (fu_at (by omega) (fu_at (by omega) h4))) (fu_at (by omega) (fu_at (by omega) (fu_at (by omega) h5)))) (fu_at (by omega) (fu_at (by omega) (fu_at (by omega) h4))) rfl (cwV 1 S.2.2.2.2 gL_law_X10_type rfl rfl rfl (by decide +kernel) ⟨Nat.le_of_ble_eq_true rfl, Nat.le_of_ble_eq_true rfl⟩) rfl hl.1 rfl (Nat.le_of_ble_eq_true rfl) dL_law_238 ⟨Nat.le_of_ble_eq_true rfl, Nat.le_of_ble_eq_true rfl⟩ (fun rv_2 _ H locs hp hG => ?_)
  subst rv_2
  refine lv_istore (lv' := [(7, .int 1), (6, .int 0), (0, .ref b), (1, .ref N0), (2, .ref (N0 + 164)), (3, .ref (N0 + 229)), (4, .ref (N0 + 230)), (5, .int 0)]) S.1 S.2.1 dL_law_241 hl (by decide) rfl (fun ls hl => ?_)
  refine lv_aload_n S.1 S.2.1 dL_law_243 rfl (lv_at hl 4 rfl) ?_
  refine fx_cVi (As := []) (rest := []) S hG (k17_X10_thrown (by omega) fu_s) fu_s rfl (cwV 0 S.2.2.2.2 gL_law_X10_thrown rfl rfl rfl (by decide +kernel) ⟨Nat.le_of_ble_eq_true rfl, Nat.le_of_ble_eq_true rfl⟩) rfl hl.1 rfl (Nat.le_of_ble_eq_true rfl) dL_law_244 ⟨Nat.le_of_ble_eq_true rfl, Nat.le_of_ble_eq_true rfl⟩ (fun rv_3 _ H locs hp hG => ?_)
  subst rv_3
  refine lv_iload S.1 S.2.1 dL_law_247 (lv_at hl 1 rfl) ?_
  refine lv_icmp_eq (tgt := 254) S.1 S.2.1 dL_law_249 (by decide) (fun _ => ?_) (fun c => absurd (by decide) c)
  refine lv_iload S.1 S.2.1 dL_law_254 (lv_at hl 1 rfl) ?_
  refine lv_if_ne (tgt := 271) S.1 S.2.1 dL_law_256 (by decide) (fun c => absurd (by decide) c) (fun _ => ?_)
  refine lv_aload_n S.1 S.2.1 dL_law_259 rfl (lv_at hl 5 rfl) ?_
  refine lv_iconst (v := 0) S.1 S.2.1 dL_law_260 (by decide) ?_
  refine gx_lald (v := 1) S hG 2 (fu_at (by omega) (fu_at (by omega) fu_s)) rfl (fin_l (by decide)) rfl dL_law_261 ?_
  refine lv_iload S.1 S.2.1 dL_law_262 (lv_at hl 0 rfl) ?_
  refine lv_i2l (v := 1) S.1 S.2.1 dL_law_264 (by decide) ?_
  refine gx_lcmpEq S rfl dL_law_265 ?_
  refine lv_if_eq (tgt := 271) S.1 S.2.1 dL_law_266 (by decide) (fun _ => ?_) (fun c => absurd (by decide) c)
  refine lv_goto (tgt := 2650) S.1 S.2.1 dL_law_271 (by decide) ?_
  refine lv_iinc (v := 5) (lv' := [(5, .int 5), (7, .int 1), (6, .int 0), (0, .ref b), (1, .ref N0), (2, .ref (N0 + 164)), (3, .ref (N0 + 229)), (4, .ref (N0 + 230))]) S.1 S.2.1 dL_law_2650 hl (k := 7) rfl (by decide) (by decide) rfl (fun ls hl => ?_)
  refine lv_goto (tgt := 28) S.1 S.2.1 dL_law_2653 (by decide) ?_
  refine lv_iload S.1 S.2.1 dL_law_28 (lv_at hl 0 rfl) ?_
  refine lv_aload_n S.1 S.2.1 dL_law_30 rfl (lv_at hl 3 rfl) ?_
  refine gx_slen (v := 5) S hG hX hbl rfl dL_law_31 ?_
  refine lv_iconst (v := 5) S.1 S.2.1 dL_law_32 (by decide) ?_
  refine lv_isub S.1 S.2.1 dL_law_33 ?_
  refine fx_topi (y := 0) (by decide) ?_
  refine lv_icmp_gt (tgt := 2656) S.1 S.2.1 dL_law_34 (by decide) (fun _ => ?_) (fun c => absurd (by decide) c)
  refine lv_iconst (v := 1) S.1 S.2.1 dL_law_2656 (by decide) ?_
  refine va_forget (fun q hq => by rw [hN]; exact hG.2.1.2.2 q hq) ?_
  refine W.widen (k := 600002) (n := 7302232) (by decide) (by decide) ?_
  exact lw_ret (d0 := s.drawn) (Drawn.sameBut.refl _ _) S.1 S.2.1 hr hlocks dL_law_2657
theorem case_0 {p : Program} {e : Env} {s : State} {m : MethodId} {below : List Frame} {meth : Method} {c : Code} {b : Nat} {xs : Nat → Int32} {H : Heap} {locs : List Loc} {ls : Array Slot} {n : Nat} {a1 a2 a3 a4 : Int32} (S : CallFix p m c cL_law 9 s #[.ref b] wsL_law "TreeDifferLaw") (hr : meth.sig.returnType = ret) (hlocks : meth.locks = false) (hst : l.stackTraces = false) (hX : va_X b 5 xs s s.heap) (hbl : b < s.heap.size ∧ b < N0) (hN : s.heap.size = N0) (hn : N0 + 231 ≤ n) (hx1 : xs 1 = a1) (hx2 : xs 2 = a2) (hx3 : xs 3 = a3) (hx4 : xs 4 = a4) (hL : ∀ (i : Nat) (q : Nat × va_E), (lneed N0 cI cC cL cD cII cTr cTm cIt cB ql)[i]? = some q → F (N0 + q.1) = some q.2) (hG : fG N0 D vwCl (fty cI cC cL cD cII cTr cTm cIt cB) (fen ql) s F n H locs) (hl : lv_has ls 9 [(0, .ref b), (1, .ref N0), (2, .ref (N0 + 164)), (3, .ref (N0 + 229)), (4, .ref (N0 + 230)), (5, .int 0)]) : W p l e { frames := 2048, cells := 600002, slots := 7302232, locals := 84000 } s m #[.ref b] below meth c H locs 231 4980 (lw_Z below #[.ref b] s) (F0 m 216 ls []) := by
  have hn1 := pk_nc a1
  have hf1 := pk_fc a1
  have hv1 := pk_vc a1
  obtain ⟨g_c1_ge_0, g_c1_le_65535⟩ := fl_c0 a1
  generalize hc1 : (a1.toUInt32 % 65536).toInt32 = c1 at *
  have hn2 := pk_nc a2
  have hf2 := pk_fc a2
  have hv2 := pk_vc a2
  obtain ⟨g_c2_ge_0, g_c2_le_65535⟩ := fl_c0 a2
  generalize hc2 : (a2.toUInt32 % 65536).toInt32 = c2 at *
  have hn3 := pk_nc a3
  have hf3 := pk_fc a3
  have hv3 := pk_vc a3
  obtain ⟨g_c3_ge_0, g_c3_le_65535⟩ := fl_c0 a3
  generalize hc3 : (a3.toUInt32 % 65536).toInt32 = c3 at *
  have hn4 := pk_nc a4
  have hf4 := pk_fc a4
  have hv4 := pk_vc a4
  obtain ⟨g_c4_ge_0, g_c4_le_65535⟩ := fl_c0 a4
  generalize hc4 : (a4.toUInt32 % 65536).toInt32 = c4 at *
  exact l0_0 hc1 hv1 S hr hlocks hst hX hbl hN hn hx1 hx2 hx3 hx4 (hL 0 _ rfl) (hL 1 _ rfl) (hL 2 _ rfl) (hL 3 _ rfl) (hL 4 _ rfl) (hL 5 _ rfl) hG hl
