
variable {l : Launch} {N0 : Nat} {D : va_G} {cI cC cL cD cII cTr cTm cIt cB : ClassId} {F : Nat → Option va_E} {ql : Nat → Nat}
theorem l26_14 {p : Program} {e : Env} {s : State} {m : MethodId} {below : List Frame} {meth : Method} {c : Code} {b : Nat} {xs : Nat → Int32} {H : Heap} {locs : List Loc} {ls : Array Slot} {n : Nat} {a3 a4 : Int32} (S : CallFix p m c cL_law 9 s #[.ref b] wsL_law "TreeDifferLaw") (hr : meth.sig.returnType = ret) (hlocks : meth.locks = false) (hst : l.stackTraces = false) (hX : va_X b 5 xs s s.heap) (hbl : b < s.heap.size ∧ b < N0) (hN : s.heap.size = N0) (hn : N0 + 231 ≤ n) (hx1 : xs 1 = 2) (hx2 : xs 2 = 2) (hx3 : xs 3 = a3) (hx4 : xs 4 = a4) (h0 : F N0 = some (.inr (9, [.ref (N0 + 1), .ref (N0 + 2), .ref (N0 + 11), .ref (N0 + 13), .ref (N0 + 63), .ref (N0 + 65), .ref (N0 + 85), .int (-1), .int (-1), .int 32]))) (h1 : F (N0 + 1) = some (.inl (cTr, 3, .inr (.inr (.inr (.inr (va_up (va_up (va_up (fun _ => none) 0 (some (N0 + 143))) 1 (some (N0 + 150))) 2 (some (N0 + 157))))))))) (h2 : F (N0 + 65) = some (.inr (5, [.int 0, .ref (N0 + 66), .ref (N0 + 73), .ref (N0 + 80), .ref (N0 + 81), .ref (N0 + 82), .ref (N0 + 83), .ref (N0 + 84), .int 0]))) (h3 : F (N0 + 157) = some (.inr (7, [.ref (N0 + 158), .ref (N0 + 159), .ref (N0 + 160), .ref (N0 + 161), .ref (N0 + 162), .ref (N0 + 163), .int 1]))) (h4 : F (N0 + 66) = some (.inr (7, [.ref (N0 + 67), .ref (N0 + 68), .ref (N0 + 69), .ref (N0 + 70), .ref (N0 + 71), .ref (N0 + 72), .int 1]))) (h5 : F (N0 + 158) = some (.inl (cC, 20, .inl (upd (fun _ => 0) 0 97)))) (h6 : F (N0 + 67) = some (.inl (cC, 20, .inl (upd (fun _ => 0) 0 97)))) (h7 : F (N0 + 159) = some (.inl (cI, 20, .inl (fun _ => 0)))) (h8 : F (N0 + 68) = some (.inl (cI, 20, .inl (fun _ => 0)))) (h9 : F (N0 + 160) = some (.inl (cI, 20, .inl (fun _ => 0)))) (h10 : F (N0 + 69) = some (.inl (cI, 20, .inl (fun _ => 0)))) (h11 : F (N0 + 161) = some (.inl (cI, 20, .inl (upd (fun _ => 0) 0 (-1))))) (h12 : F (N0 + 70) = some (.inl (cI, 20, .inl (upd (fun _ => 0) 0 (-1))))) (h13 : F (N0 + 73) = some (.inr (7, [.ref (N0 + 74), .ref (N0 + 75), .ref (N0 + 76), .ref (N0 + 77), .ref (N0 + 78), .ref (N0 + 79), .int 1]))) (h14 : F (N0 + 74) = some (.inl (cC, 20, .inl (upd (fun _ => 0) 0 97)))) (h15 : F (N0 + 75) = some (.inl (cI, 20, .inl (fun _ => 0)))) (h16 : F (N0 + 76) = some (.inl (cI, 20, .inl (fun _ => 0)))) (h17 : F (N0 + 77) = some (.inl (cI, 20, .inl (upd (fun _ => 0) 0 (-1))))) (h18 : F (N0 + 13) = some (.inr (3, [.ref (N0 + 14), .ref (N0 + 35), .ref (N0 + 57), .ref (N0 + 58), .ref (N0 + 59), .ref (N0 + 60), .int 0, .int 0, .ref (N0 + 61), .ref (N0 + 62)]))) (h19 : F (N0 + 57) = some (.inl (cI, 20, .inl (fun _ => 0)))) (h20 : F (N0 + 58) = some (.inl (cI, 20, .inl (fun _ => 0)))) (h21 : F (N0 + 35) = some (.inl (cII, 21, .inr (.inr (.inr (.inr (fun j => if j < 21 then some ((N0 + 36) + j) else none))))))) (h22 : F (N0 + 36) = some (.inl (cI, 21, .inl (fun _ => 0)))) (h23 : F (N0 + 14) = some (.inl (cII, 20, .inr (.inr (.inr (.inr (fun j => if j < 20 then some ((N0 + 15) + j) else none))))))) (h24 : F (N0 + 15) = some (.inl (cI, 20, .inl (fun _ => 0)))) (h25 : F (N0 + 61) = some (.inl (cI, 20, .inl (fun _ => 0)))) (h26 : F (N0 + 62) = some (.inl (cI, 20, .inl (fun _ => 0)))) (h27 : F (N0 + 80) = some (.inl (cI, 20, .inl (fun _ => 0)))) (h28 : F (N0 + 81) = some (.inl (cI, 20, .inl (fun _ => 0)))) (h29 : F (N0 + 229) = some (.inl (cL, 1, .inr (.inl (fun _ => 0))))) (h30 : F (N0 + 164) = some (.inr (12, [.ref (N0 + 165), .int 0, .ref (N0 + 181), .int 0, .int 0, .int 0, .int (-1), .ref (ql 24), .ref (N0 + 182), .ref (N0 + 187), .ref (N0 + 208), .ref (N0 + 209), .ref (N0 + 210), .ref (N0 + 211), .ref (N0 + 212), .int 0, .ref (N0 + 213), .ref (N0 + 218), .ref (N0 + 223), .ref (N0 + 224), .ref (N0 + 225), .ref (N0 + 226), .ref (N0 + 227), .int 0, .int 0, .ref (N0 + 228), .null, .int (-1), .int 0, .int 0, .int 0]))) (h31 : F (N0 + 165) = some (.inl (cTm, 3, .inr (.inr (.inr (.inr (va_up (va_up (va_up (fun _ => none) 0 (some (N0 + 166))) 1 (some (N0 + 171))) 2 (some (N0 + 176))))))))) (h32 : F (N0 + 176) = some (.inr (11, [.ref (N0 + 177), .ref (N0 + 178), .ref (N0 + 179), .ref (N0 + 180), .int 1]))) (h33 : F (N0 + 213) = some (.inr (11, [.ref (N0 + 214), .ref (N0 + 215), .ref (N0 + 216), .ref (N0 + 217), .int 0]))) (h34 : F (N0 + 177) = some (.inl (cI, 20, .inl (upd (fun _ => 0) 0 97)))) (h35 : F (N0 + 178) = some (.inl (cI, 20, .inl (upd (fun _ => 0) 0 0)))) (h36 : F (N0 + 179) = some (.inl (cI, 20, .inl (upd (fun _ => 0) 0 0)))) (h37 : F (N0 + 180) = some (.inl (cI, 20, .inl (upd (fun _ => 0) 0 (-1))))) (h38 : F (N0 + 214) = some (.inl (cI, 20, .inl (fun _ => 0)))) (h39 : F (N0 + 215) = some (.inl (cI, 20, .inl (fun _ => 0)))) (h40 : F (N0 + 216) = some (.inl (cI, 20, .inl (fun _ => 0)))) (h41 : F (N0 + 217) = some (.inl (cI, 20, .inl (fun _ => 0)))) (h42 : F (N0 + 218) = some (.inr (11, [.ref (N0 + 219), .ref (N0 + 220), .ref (N0 + 221), .ref (N0 + 222), .int 0]))) (h43 : F (N0 + 219) = some (.inl (cI, 20, .inl (fun _ => 0)))) (h44 : F (N0 + 220) = some (.inl (cI, 20, .inl (fun _ => 0)))) (h45 : F (N0 + 221) = some (.inl (cI, 20, .inl (fun _ => 0)))) (h46 : F (N0 + 222) = some (.inl (cI, 20, .inl (fun _ => 0)))) (h47 : F (N0 + 211) = some (.inl (cI, 20, .inl (fun _ => 0)))) (h48 : F (N0 + 212) = some (.inl (cI, 20, .inl (fun _ => 0)))) (h49 : F (N0 + 187) = some (.inl (cII, 20, .inr (.inr (.inr (.inr (fun j => if j < 20 then some ((N0 + 188) + j) else none))))))) (h50 : F (N0 + 188) = some (.inl (cI, 20, .inl (fun _ => 0)))) (h51 : F (N0 + 226) = some (.inl (cI, 20, .inl (fun _ => 0)))) (h52 : F (N0 + 227) = some (.inl (cI, 20, .inl (fun _ => 0)))) (hG : fG N0 D vwCl (fty cI cC cL cD cII cTr cTm cIt cB) (fen ql) s F n H locs) (hl : lv_has ls 9 [(0, .ref b), (1, .ref N0), (2, .ref (N0 + 164)), (3, .ref (N0 + 229)), (4, .ref (N0 + 230)), (5, .int 0)]) : W p l e { frames := 2048, cells := 600002, slots := 7302232, locals := 84000 } s m #[.ref b] below meth c H locs 231 4980 (lw_Z below #[.ref b] s) (F0 m 2018 ls []) := by
  have lt_h0 := hG.1.lt h0
  have lt_h1 := hG.1.lt h1
  have lt_h2 := hG.1.lt h2
  have lt_h3 := hG.1.lt h3
  have lt_h4 := hG.1.lt h4
  have lt_h5 := hG.1.lt h5
  have lt_h6 := hG.1.lt h6
  have lt_h7 := hG.1.lt h7
  have lt_h8 := hG.1.lt h8
  have lt_h9 := hG.1.lt h9
  have lt_h10 := hG.1.lt h10
  have lt_h11 := hG.1.lt h11
  have lt_h12 := hG.1.lt h12
  have lt_h13 := hG.1.lt h13
  have lt_h14 := hG.1.lt h14
  have lt_h15 := hG.1.lt h15
  have lt_h16 := hG.1.lt h16
  have lt_h17 := hG.1.lt h17
  have lt_h18 := hG.1.lt h18
  have lt_h19 := hG.1.lt h19
  have lt_h20 := hG.1.lt h20
  have lt_h21 := hG.1.lt h21
  have lt_h22 := hG.1.lt h22
  have lt_h23 := hG.1.lt h23
  have lt_h24 := hG.1.lt h24
  have lt_h25 := hG.1.lt h25
  have lt_h26 := hG.1.lt h26
  have lt_h27 := hG.1.lt h27
  have lt_h28 := hG.1.lt h28
  have lt_h29 := hG.1.lt h29
  have lt_h30 := hG.1.lt h30
  have lt_h31 := hG.1.lt h31
  have lt_h32 := hG.1.lt h32
  have lt_h33 := hG.1.lt h33
  have lt_h34 := hG.1.lt h34
  have lt_h35 := hG.1.lt h35
  have lt_h36 := hG.1.lt h36
  have lt_h37 := hG.1.lt h37
  have lt_h38 := hG.1.lt h38
  have lt_h39 := hG.1.lt h39
  have lt_h40 := hG.1.lt h40
  have lt_h41 := hG.1.lt h41
  have lt_h42 := hG.1.lt h42
  have lt_h43 := hG.1.lt h43
  have lt_h44 := hG.1.lt h44
  have lt_h45 := hG.1.lt h45
  have lt_h46 := hG.1.lt h46
  have lt_h47 := hG.1.lt h47
  have lt_h48 := hG.1.lt h48
  have lt_h49 := hG.1.lt h49
  have lt_h50 := hG.1.lt h50
  have lt_h51 := hG.1.lt h51
  have lt_h52 := hG.1.lt h52
  refine lv_aload_n S.1 S.2.1 dL_law_2018 rfl (lv_at hl 1 rfl) ?_
  refine lv_aload_n S.1 S.2.1 dL_law_2019 rfl (lv_at hl 0 rfl) ?_
  refine lv_iload S.1 S.2.1 dL_law_2020 (lv_at hl 5 rfl) ?_
  refine lv_iconst (v := 1) S.1 S.2.1 dL_law_2022 (by decide) ?_
  refine lv_iadd S.1 S.2.1 dL_law_2023 ?_
  refine fx_topi (y := 1) (by decide) ?_
  refine gx_sld (v := 2) S hG hX hbl (fin_l (by decide)) hx1 dL_law_2024 ?_
  refine lv_aload_n S.1 S.2.1 dL_law_2025 rfl (lv_at hl 0 rfl) ?_
  refine lv_iload S.1 S.2.1 dL_law_2026 (lv_at hl 5 rfl) ?_
  refine lv_iconst (v := 2) S.1 S.2.1 dL_law_2028 (by decide) ?_
  refine lv_iadd S.1 S.2.1 dL_law_2029 ?_
  refine fx_topi (y := 2) (by decide) ?_
  refine gx_sld (v := 2) S hG hX hbl (fin_l (by decide)) hx2 dL_law_2030 ?_
  refine lv_aload_n S.1 S.2.1 dL_law_2031 rfl (lv_at hl 3 rfl) ?_
  refine fx_cTi (As := [.ref N0, .int 2, .int 2, .ref (N0 + 229)]) (rest := []) S hG (k1518_L_diff (by omega) h0 h1 h2 h3 h4 h5 h6 h7 h8 h9 h10 h11 h12 h13 h14 h15 h16 h17 h18 h19 h20 h21 h22 h23 h24 h25 h26 h27 h28 h29) (vx_cwSW 4 S.2.2.2.2 gL_law_L_diff rfl rfl rfl (by decide +kernel) ⟨Nat.le_of_ble_eq_true rfl, Nat.le_of_ble_eq_true rfl⟩) rfl hl.1 rfl (Nat.le_of_ble_eq_true rfl) dL_law_2032 ⟨Nat.le_of_ble_eq_true rfl, Nat.le_of_ble_eq_true rfl⟩ (fun rv_1 _ H locs hp hG => ?_)
  subst rv_1
  refine lv_istore (lv' := [(6, .int 0), (0, .ref b), (1, .ref N0), (2, .ref (N0 + 164)), (3, .ref (N0 + 229)), (4, .ref (N0 + 230)), (5, .int 0)]) S.1 S.2.1 dL_law_2035 hl (by decide) rfl (fun ls hl => ?_)
  refine lv_aload_n S.1 S.2.1 dL_law_2037 rfl (lv_at hl 3 rfl) ?_
  refine lv_aload_n S.1 S.2.1 dL_law_2038 rfl (lv_at hl 1 rfl) ?_
  refine lv_iload S.1 S.2.1 dL_law_2039 (lv_at hl 6 rfl) ?_
  refine lv_iconst (v := 1) S.1 S.2.1 dL_law_2041 (by decide) ?_
  refine lv_iadd S.1 S.2.1 dL_law_2042 ?_
  refine fx_topi (y := 1) (by decide) ?_
  refine gx_sld (v := 2) S hG hX hbl (fin_l (by decide)) hx1 dL_law_2043 ?_
  refine lv_aload_n S.1 S.2.1 dL_law_2044 rfl (lv_at hl 1 rfl) ?_
  refine lv_iload S.1 S.2.1 dL_law_2045 (lv_at hl 6 rfl) ?_
  refine lv_iconst (v := 2) S.1 S.2.1 dL_law_2047 (by decide) ?_
  refine lv_iadd S.1 S.2.1 dL_law_2048 ?_
  refine fx_topi (y := 2) (by decide) ?_
  refine gx_sld (v := 2) S hG hX hbl (fin_l (by decide)) hx2 dL_law_2049 ?_
  refine fx_cVi (As := [.int 2, .int 2]) (rest := []) S hG (k1519_X10_diff (by omega) (fu_at (by omega) (fu_at (by omega) (fu_at (by omega) (fu_at (by omega) (fu_at (by omega) (fu_at (by omega) (fu_at (by omega) (fu_at (by omega) (fu_at (by omega) (fu_at (by omega) (fu_at (by omega) (fu_at (by omega) (fu_at (by omega) (fu_at (by omega) (fu_at (by omega) (fu_at (by omega) (fu_at (by omega) (fu_at (by omega) (fu_at (by omega) (fu_at (by omega) (fu_at (by omega) h30))))))))))))))))))))) (fu_at (by omega) (fu_at (by omega) (fu_at (by omega) (fu_at (by omega) (fu_at (by omega) (fu_at (by omega) (fu_at (by omega) (fu_at (by omega) (fu_at (by omega) (fu_at (by omega) (fu_at (by omega) (fu_at (by omega) (fu_at (by omega) (fu_at (by omega) (fu_at (by omega) (fu_at (by omega) (fu_at (by omega) (fu_at (by omega) (fu_at (by omega) (fu_at (by omega) (fu_at (by omega) h31))))))))))))))))))))) (fu_at (by omega) (fu_at (by omega) (fu_at (by omega) (fu_at (by omega) (fu_at (by omega) (fu_at (by omega) (fu_at (by omega) (fu_at (by omega) (fu_at (by omega) (fu_at (by omega) (fu_at (by omega) (fu_at (by omega) (fu_at (by omega) (fu_at (by omega) (fu_at (by omega) (fu_at (by omega) (fu_at (by omega) (fu_at (by omega) (fu_at (by omega) (fu_at (by omega) (fu_at (by omega) h32))))))))))))))))))))) (fu_at (by omega) (fu_at (by omega) (fu_at (by omega) (fu_at (by omega) (fu_at (by omega) (fu_at (by omega) (fu_at (by omega) (fu_at (by omega) (fu_at (by omega) (fu_at (by omega) (fu_at (by omega) (fu_at (by omega) (fu_at (by omega) (fu_at (by omega) (fu_at (by omega) (fu_at (by omega) (fu_at (by omega) (fu_at (by omega) (fu_at (by omega) (fu_at (by omega) (fu_at (by omega) h33))))))))))))))))))))) (fu_at (by omega) (fu_at (by omega) (fu_at (by omega) (fu_at (by omega) (fu_at (by omega) (fu_at (by omega) (fu_at (by omega) (fu_at (by omega) (fu_at (by omega) (fu_at (by omega) (fu_at (by omega) (fu_at (by omega) (fu_at (by omega) (fu_at (by omega) (fu_at (by omega) (fu_at (by omega) (fu_at (by omega) (fu_at (by omega) (fu_at (by omega) (fu_at (by omega) (fu_at (by omega) h34))))))))))))))))))))) (fu_at (by omega) (fu_at (by omega) (fu_at (by omega) (fu_at (by omega) (fu_at (by omega) (fu_at (by omega) (fu_at (by omega) (fu_at (by omega) (fu_at (by omega) (fu_at (by omega) (fu_at (by omega) (fu_at (by omega) (fu_at (by omega) (fu_at (by omega) (fu_at (by omega) (fu_at (by omega) (fu_at (by omega) (fu_at (by omega) (fu_at (by omega) (fu_at (by omega) (fu_at (by omega) h35))))))))))))))))))))) (fu_at (by omega) (fu_at (by omega) (fu_at (by omega) (fu_at (by omega) (fu_at (by omega) (fu_at (by omega) (fu_at (by omega) (fu_at (by omega) (fu_at (by omega) (fu_at (by omega) (fu_at (by omega) (fu_at (by omega) (fu_at (by omega) (fu_at (by omega) (fu_at (by omega) (fu_at (by omega) (fu_at (by omega) (fu_at (by omega) (fu_at (by omega) (fu_at (by omega) (fu_at (by omega) h36))))))))))))))))))))) (fu_at (by omega) (fu_at (by omega) (fu_at (by omega) (fu_at (by omega) (fu_at (by omega) (fu_at (by omega) (fu_at (by omega) (fu_at (by omega) (fu_at (by omega) (fu_at (by omega) (fu_at (by omega) (fu_at (by omega) (fu_at (by omega) (fu_at (by omega) (fu_at (by omega) (fu_at (by omega) (fu_at (by omega) (fu_at (by omega) (fu_at (by omega) (fu_at (by omega) (fu_at (by omega) h37))))))))))))))))))))) (fu_at (by omega) (fu_at (by omega) (fu_at (by omega) (fu_at (by omega) (fu_at (by omega) (fu_at (by omega) (fu_at (by omega) (fu_at (by omega) (fu_at (by omega) (fu_at (by omega) (fu_at (by omega) (fu_at (by omega) (fu_at (by omega) (fu_at (by omega) (fu_at (by omega) (fu_at (by omega) (fu_at (by omega) (fu_at (by omega) (fu_at (by omega) (fu_at (by omega) (fu_at (by omega) h38))))))))))))))))))))) (fu_at (by omega) (fu_at (by omega) (fu_at (by omega) (fu_at (by omega) (fu_at (by omega) (fu_at (by omega) (fu_at (by omega) (fu_at (by omega) (fu_at (by omega) (fu_at (by omega) (fu_at (by omega) (fu_at (by omega) (fu_at (by omega) (fu_at (by omega) (fu_at (by omega) (fu_at (by omega) (fu_at (by omega) (fu_at (by omega) (fu_at (by omega) (fu_at (by omega) (fu_at (by omega) h39))))))))))))))))))))) (fu_at (by omega) (fu_at (by omega) (fu_at (by omega) (fu_at (by omega) (fu_at (by omega) (fu_at (by omega) (fu_at (by omega) (fu_at (by omega) (fu_at (by omega) (fu_at (by omega) (fu_at (by omega) (fu_at (by omega) (fu_at (by omega) (fu_at (by omega) (fu_at (by omega) (fu_at (by omega) (fu_at (by omega) (fu_at (by omega) (fu_at (by omega) (fu_at (by omega) (fu_at (by omega) h40))))))))))))))))))))) (fu_at (by omega) (fu_at (by omega) (fu_at (by omega) (fu_at (by omega) (fu_at (by omega) (fu_at (by omega) (fu_at (by omega) (fu_at (by omega) (fu_at (by omega) (fu_at (by omega) (fu_at (by omega) (fu_at (by omega) (fu_at (by omega) (fu_at (by omega) (fu_at (by omega) (fu_at (by omega) (fu_at (by omega) (fu_at (by omega) (fu_at (by omega) (fu_at (by omega) (fu_at (by omega) h41))))))))))))))))))))) (fu_at (by omega) (fu_at (by omega) (fu_at (by omega) (fu_at (by omega) (fu_at (by omega) (fu_at (by omega) (fu_at (by omega) (fu_at (by omega) (fu_at (by omega) (fu_at (by omega) (fu_at (by omega) (fu_at (by omega) (fu_at (by omega) (fu_at (by omega) (fu_at (by omega) (fu_at (by omega) (fu_at (by omega) (fu_at (by omega) (fu_at (by omega) (fu_at (by omega) (fu_at (by omega) h42))))))))))))))))))))) (fu_at (by omega) (fu_at (by omega) (fu_at (by omega) (fu_at (by omega) (fu_at (by omega) (fu_at (by omega) (fu_at (by omega) (fu_at (by omega) (fu_at (by omega) (fu_at (by omega) (fu_at (by omega) (fu_at (by omega) (fu_at (by omega) (fu_at (by omega) (fu_at (by omega) (fu_at (by omega) (fu_at (by omega) (fu_at (by omega) (fu_at (by omega) (fu_at (by omega) (fu_at (by omega) h43))))))))))))))))))))) (fu_at (by omega) (fu_at (by omega) (fu_at (by omega) (fu_at (by omega) (fu_at (by omega) (fu_at (by omega) (fu_at (by omega) (fu_at (by omega) (fu_at (by omega) (fu_at (by omega) (fu_at (by omega) (fu_at (by omega) (fu_at (by omega) (fu_at (by omega) (fu_at (by omega) (fu_at (by omega) (fu_at (by omega) (fu_at (by omega) (fu_at (by omega) (fu_at (by omega) (fu_at (by omega) h44))))))))))))))))))))) (fu_at (by omega) (fu_at (by omega) (fu_at (by omega) (fu_at (by omega) (fu_at (by omega) (fu_at (by omega) (fu_at (by omega) (fu_at (by omega) (fu_at (by omega) (fu_at (by omega) (fu_at (by omega) (fu_at (by omega) (fu_at (by omega) (fu_at (by omega) (fu_at (by omega) (fu_at (by omega) (fu_at (by omega) (fu_at (by omega) (fu_at (by omega) (fu_at (by omega) (fu_at (by omega) h45))))))))))))))))))))) (fu_at (by omega) (fu_at (by omega) (fu_at (by omega) (fu_at (by omega) (fu_at (by omega) (fu_at (by omega) (fu_at (by omega) (fu_at (by omega) (fu_at (by omega) (fu_at (by omega) (fu_at (by omega) (fu_at (by omega) (fu_at (by omega) (fu_at (by omega) (fu_at (by omega) (fu_at (by omega) (fu_at (by omega) (fu_at (by omega) (fu_at (by omega) (fu_at (by omega) (fu_at (by omega) h46))))))))))))))))))))) (fu_at (by omega) (fu_at (by omega) (fu_at (by omega) (fu_at (by omega) (fu_at (by omega) (fu_at (by omega) (fu_at (by omega) (fu_at (by omega) (fu_at (by omega) (fu_at (by omega) (fu_at (by omega) (fu_at (by omega) (fu_at (by omega) (fu_at (by omega) (fu_at (by omega) (fu_at (by omega) (fu_at (by omega) (fu_at (by omega) (fu_at (by omega) (fu_at (by omega) (fu_at (by omega) h47))))))))))))))))))))) (fu_at (by omega) (fu_at (by omega) (fu_at (by omega) (fu_at (by omega) (fu_at (by omega) (fu_at (by omega) (fu_at (by omega) (fu_at (by omega) (fu_at (by omega) (fu_at (by omega) (fu_at (by omega) (fu_at (by omega) (fu_at (by omega) (fu_at (by omega) (fu_at (by omega) (fu_at (by omega) (fu_at (by omega) (fu_at (by omega) (fu_at (by omega) (fu_at (by omega) (fu_at (by omega) h48))))))))))))))))))))) (fu_at (by omega) (fu_at (by omega) (fu_at (by omega) (fu_at (by omega) (fu_at (by omega) (fu_at (by omega) (fu_at (by omega) (fu_at (by omega) (fu_at (by omega) (fu_at (by omega) (fu_at (by omega) (fu_at (by omega) (fu_at (by omega) (fu_at (by omega) (fu_at (by omega) (fu_at (by omega) (fu_at (by omega) (fu_at (by omega) (fu_at (by omega) (fu_at (by omega) (fu_at (by omega) h49))))))))))))))))))))) (fu_at (by omega) (fu_at (by omega) (fu_at (by omega) (fu_at (by omega) (fu_at (by omega) (fu_at (by omega) (fu_at (by omega) (fu_at (by omega) (fu_at (by omega) (fu_at (by omega) (fu_at (by omega) (fu_at (by omega) (fu_at (by omega) (fu_at (by omega) (fu_at (by omega) (fu_at (by omega) (fu_at (by omega) (fu_at (by omega) (fu_at (by omega) (fu_at (by omega) (fu_at (by omega) h50))))))))))))))))))))) (fu_at (by omega) (fu_at (by omega) (fu_at (by omega) (fu_at (by omega) (fu_at (by omega) (fu_at (by omega) (fu_at (by omega) (fu_at (by omega) (fu_at (by omega) (fu_at (by omega) (fu_at (by omega) (fu_at (by omega) (fu_at (by omega) (fu_at (by omega) (fu_at (by omega) (fu_at (by omega) (fu_at (by omega) (fu_at (by omega) (fu_at (by omega) (fu_at (by omega) (fu_at (by omega) h51))))))))))))))))))))) (fu_at (by omega) (fu_at (by omega) (fu_at (by omega) (fu_at (by omega) (fu_at (by omega) (fu_at (by omega) (fu_at (by omega) (fu_at (by omega) (fu_at (by omega) (fu_at (by omega) (fu_at (by omega) (fu_at (by omega) (fu_at (by omega) (fu_at (by omega) (fu_at (by omega) (fu_at (by omega) (fu_at (by omega) (fu_at (by omega) (fu_at (by omega) (fu_at (by omega) (fu_at (by omega) h52)))))))))))))))))))))) (fu_at (by omega) (fu_at (by omega) (fu_at (by omega) (fu_at (by omega) (fu_at (by omega) (fu_at (by omega) (fu_at (by omega) (fu_at (by omega) (fu_at (by omega) (fu_at (by omega) (fu_at (by omega) (fu_at (by omega) (fu_at (by omega) (fu_at (by omega) (fu_at (by omega) (fu_at (by omega) (fu_at (by omega) (fu_at (by omega) (fu_at (by omega) (fu_at (by omega) (fu_at (by omega) h30))))))))))))))))))))) rfl (cwV 2 S.2.2.2.2 gL_law_X10_diff rfl rfl rfl (by decide +kernel) ⟨Nat.le_of_ble_eq_true rfl, Nat.le_of_ble_eq_true rfl⟩) rfl hl.1 rfl (Nat.le_of_ble_eq_true rfl) dL_law_2050 ⟨Nat.le_of_ble_eq_true rfl, Nat.le_of_ble_eq_true rfl⟩ (fun rv_2 _ H locs hp hG => ?_)
  subst rv_2
  refine W.widen (k := 239) (n := 4984) (by decide) (by decide) ?_
  refine lv_istore (lv' := [(7, .int 0), (6, .int 0), (0, .ref b), (1, .ref N0), (2, .ref (N0 + 164)), (3, .ref (N0 + 229)), (4, .ref (N0 + 230)), (5, .int 0)]) S.1 S.2.1 dL_law_2053 hl (by decide) rfl (fun ls hl => ?_)
  refine lv_aload_n S.1 S.2.1 dL_law_2055 rfl (lv_at hl 4 rfl) ?_
  refine fx_cVi (As := []) (rest := []) S hG (k1467_X10_thrown (by omega) (fblk_sk 8 rfl (by omega) fu_s)) (fblk_sk 8 rfl (by omega) fu_s) rfl (cwV 0 S.2.2.2.2 gL_law_X10_thrown rfl rfl rfl (by decide +kernel) ⟨Nat.le_of_ble_eq_true rfl, Nat.le_of_ble_eq_true rfl⟩) rfl hl.1 rfl (Nat.le_of_ble_eq_true rfl) dL_law_2056 ⟨Nat.le_of_ble_eq_true rfl, Nat.le_of_ble_eq_true rfl⟩ (fun rv_3 _ H locs hp hG => ?_)
  subst rv_3
  refine lv_iload S.1 S.2.1 dL_law_2059 (lv_at hl 1 rfl) ?_
  refine lv_icmp_eq (tgt := 2066) S.1 S.2.1 dL_law_2061 (by decide) (fun _ => ?_) (fun c => absurd (by decide) c)
  refine lv_iload S.1 S.2.1 dL_law_2066 (lv_at hl 1 rfl) ?_
  refine lv_if_ne (tgt := 2083) S.1 S.2.1 dL_law_2068 (by decide) (fun c => absurd (by decide) c) (fun _ => ?_)
  refine lv_aload_n S.1 S.2.1 dL_law_2071 rfl (lv_at hl 5 rfl) ?_
  refine lv_iconst (v := 0) S.1 S.2.1 dL_law_2072 (by decide) ?_
  refine gx_lald (v := 0) S hG 2 (fblk_sk 8 rfl (by omega) (fu_at (by omega) (fu_at (by omega) (fu_at (by omega) (fu_at (by omega) (fu_at (by omega) (fu_at (by omega) (fu_at (by omega) (fu_at (by omega) (fu_at (by omega) (fu_at (by omega) (fu_at (by omega) (fu_at (by omega) (fu_at (by omega) (fu_at (by omega) (fu_at (by omega) (fu_at (by omega) fu_s))))))))))))))))) rfl (fin_l (by decide)) rfl dL_law_2073 ?_
  refine lv_iload S.1 S.2.1 dL_law_2074 (lv_at hl 0 rfl) ?_
  refine lv_i2l (v := 0) S.1 S.2.1 dL_law_2076 (by decide) ?_
  refine gx_lcmpEq S rfl dL_law_2077 ?_
  refine lv_if_eq (tgt := 2083) S.1 S.2.1 dL_law_2078 (by decide) (fun _ => ?_) (fun c => absurd (by decide) c)
  refine lv_goto (tgt := 2650) S.1 S.2.1 dL_law_2083 (by decide) ?_
  refine lv_iinc (v := 5) (lv' := [(5, .int 5), (7, .int 0), (6, .int 0), (0, .ref b), (1, .ref N0), (2, .ref (N0 + 164)), (3, .ref (N0 + 229)), (4, .ref (N0 + 230))]) S.1 S.2.1 dL_law_2650 hl (k := 7) rfl (by decide) (by decide) rfl (fun ls hl => ?_)
  refine lv_goto (tgt := 28) S.1 S.2.1 dL_law_2653 (by decide) ?_
  refine lv_iload S.1 S.2.1 dL_law_28 (lv_at hl 0 rfl) ?_
  refine lv_aload_n S.1 S.2.1 dL_law_30 rfl (lv_at hl 3 rfl) ?_
  refine gx_slen (v := 5) S hG hX hbl rfl dL_law_31 ?_
  refine lv_iconst (v := 5) S.1 S.2.1 dL_law_32 (by decide) ?_
  refine lv_isub S.1 S.2.1 dL_law_33 ?_
  refine fx_topi (y := 0) (by decide) ?_
  refine lv_icmp_gt (tgt := 2656) S.1 S.2.1 dL_law_34 (by decide) (fun _ => ?_) (fun c => absurd (by decide) c)
  refine lv_iconst (v := 1) S.1 S.2.1 dL_law_2656 (by decide) ?_
  refine va_forget (fun q hq => by rw [hN]; exact hG.2.1.2.2 q hq) ?_
  refine W.widen (k := 600002) (n := 7302232) (by decide) (by decide) ?_
  exact lw_ret (d0 := s.drawn) (Drawn.sameBut.refl _ _) S.1 S.2.1 hr hlocks dL_law_2657
theorem l26_15 {p : Program} {e : Env} {s : State} {m : MethodId} {below : List Frame} {meth : Method} {c : Code} {b : Nat} {xs : Nat → Int32} {H : Heap} {locs : List Loc} {ls : Array Slot} {n : Nat} {a2 a3 a4 : Int32} (g_a2_ge_3 : 3 ≤ a2) (S : CallFix p m c cL_law 9 s #[.ref b] wsL_law "TreeDifferLaw") (hr : meth.sig.returnType = ret) (hlocks : meth.locks = false) (hst : l.stackTraces = false) (hX : va_X b 5 xs s s.heap) (hbl : b < s.heap.size ∧ b < N0) (hN : s.heap.size = N0) (hn : N0 + 231 ≤ n) (hx1 : xs 1 = 2) (hx2 : xs 2 = a2) (hx3 : xs 3 = a3) (hx4 : xs 4 = a4) (h0 : F N0 = some (.inr (9, [.ref (N0 + 1), .ref (N0 + 2), .ref (N0 + 11), .ref (N0 + 13), .ref (N0 + 63), .ref (N0 + 65), .ref (N0 + 85), .int (-1), .int (-1), .int 32]))) (h1 : F (N0 + 1) = some (.inl (cTr, 3, .inr (.inr (.inr (.inr (va_up (va_up (va_up (fun _ => none) 0 (some (N0 + 143))) 1 (some (N0 + 150))) 2 (some (N0 + 157))))))))) (h2 : F (N0 + 164) = some (.inr (12, [.ref (N0 + 165), .int 0, .ref (N0 + 181), .int 0, .int 0, .int 0, .int (-1), .ref (ql 24), .ref (N0 + 182), .ref (N0 + 187), .ref (N0 + 208), .ref (N0 + 209), .ref (N0 + 210), .ref (N0 + 211), .ref (N0 + 212), .int 0, .ref (N0 + 213), .ref (N0 + 218), .ref (N0 + 223), .ref (N0 + 224), .ref (N0 + 225), .ref (N0 + 226), .ref (N0 + 227), .int 0, .int 0, .ref (N0 + 228), .null, .int (-1), .int 0, .int 0, .int 0]))) (hG : fG N0 D vwCl (fty cI cC cL cD cII cTr cTm cIt cB) (fen ql) s F n H locs) (hl : lv_has ls 9 [(0, .ref b), (1, .ref N0), (2, .ref (N0 + 164)), (3, .ref (N0 + 229)), (4, .ref (N0 + 230)), (5, .int 0)]) : W p l e { frames := 2048, cells := 600002, slots := 7302232, locals := 84000 } s m #[.ref b] below meth c H locs 231 4980 (lw_Z below #[.ref b] s) (F0 m 2018 ls []) := by
  have lt_h0 := hG.1.lt h0
  have lt_h1 := hG.1.lt h1
  have lt_h2 := hG.1.lt h2
  refine lv_aload_n S.1 S.2.1 dL_law_2018 rfl (lv_at hl 1 rfl) ?_
  refine lv_aload_n S.1 S.2.1 dL_law_2019 rfl (lv_at hl 0 rfl) ?_
  refine lv_iload S.1 S.2.1 dL_law_2020 (lv_at hl 5 rfl) ?_
  refine lv_iconst (v := 1) S.1 S.2.1 dL_law_2022 (by decide) ?_
  refine lv_iadd S.1 S.2.1 dL_law_2023 ?_
  refine fx_topi (y := 1) (by decide) ?_
  refine gx_sld (v := 2) S hG hX hbl (fin_l (by decide)) hx1 dL_law_2024 ?_
  refine lv_aload_n S.1 S.2.1 dL_law_2025 rfl (lv_at hl 0 rfl) ?_
  refine lv_iload S.1 S.2.1 dL_law_2026 (lv_at hl 5 rfl) ?_
  refine lv_iconst (v := 2) S.1 S.2.1 dL_law_2028 (by decide) ?_
  refine lv_iadd S.1 S.2.1 dL_law_2029 ?_
  refine fx_topi (y := 2) (by decide) ?_
  refine gx_sld (v := a2) S hG hX hbl (fin_l (by decide)) hx2 dL_law_2030 ?_
  refine lv_aload_n S.1 S.2.1 dL_law_2031 rfl (lv_at hl 3 rfl) ?_
  refine fx_cTi (As := [.ref N0, .int 2, .int a2, .ref (N0 + 229)]) (rest := []) S hG (k1521_L_diff g_a2_ge_3 hst (by omega) h0 h1) (vx_cwSW 4 S.2.2.2.2 gL_law_L_diff rfl rfl rfl (by decide +kernel) ⟨Nat.le_of_ble_eq_true rfl, Nat.le_of_ble_eq_true rfl⟩) rfl hl.1 rfl (Nat.le_of_ble_eq_true rfl) dL_law_2032 ⟨Nat.le_of_ble_eq_true rfl, Nat.le_of_ble_eq_true rfl⟩ (fun rv_u_1 u_1 H locs hp hG => ?_)
  obtain ⟨rfl, hu_1⟩ := hp
  refine W.widen (k := 232) (n := 4986) (by decide) (by decide) ?_
  refine lv_istore (lv' := [(6, .int 1), (0, .ref b), (1, .ref N0), (2, .ref (N0 + 164)), (3, .ref (N0 + 229)), (4, .ref (N0 + 230)), (5, .int 0)]) S.1 S.2.1 dL_law_2035 hl (by decide) rfl (fun ls hl => ?_)
  refine lv_aload_n S.1 S.2.1 dL_law_2037 rfl (lv_at hl 3 rfl) ?_
  refine lv_aload_n S.1 S.2.1 dL_law_2038 rfl (lv_at hl 1 rfl) ?_
  refine lv_iload S.1 S.2.1 dL_law_2039 (lv_at hl 6 rfl) ?_
  refine lv_iconst (v := 1) S.1 S.2.1 dL_law_2041 (by decide) ?_
  refine lv_iadd S.1 S.2.1 dL_law_2042 ?_
  refine fx_topi (y := 1) (by decide) ?_
  refine gx_sld (v := 2) S hG hX hbl (fin_l (by decide)) hx1 dL_law_2043 ?_
  refine lv_aload_n S.1 S.2.1 dL_law_2044 rfl (lv_at hl 1 rfl) ?_
  refine lv_iload S.1 S.2.1 dL_law_2045 (lv_at hl 6 rfl) ?_
  refine lv_iconst (v := 2) S.1 S.2.1 dL_law_2047 (by decide) ?_
  refine lv_iadd S.1 S.2.1 dL_law_2048 ?_
  refine fx_topi (y := 2) (by decide) ?_
  refine gx_sld (v := a2) S hG hX hbl (fin_l (by decide)) hx2 dL_law_2049 ?_
  refine fx_cVi (As := [.int 2, .int a2]) (rest := []) S hG (k1522_X10_diff g_a2_ge_3 (by omega) h2) h2 rfl (cwV 2 S.2.2.2.2 gL_law_X10_diff rfl rfl rfl (by decide +kernel) ⟨Nat.le_of_ble_eq_true rfl, Nat.le_of_ble_eq_true rfl⟩) rfl hl.1 rfl (Nat.le_of_ble_eq_true rfl) dL_law_2050 ⟨Nat.le_of_ble_eq_true rfl, Nat.le_of_ble_eq_true rfl⟩ (fun rv_2 _ H locs hp hG => ?_)
  subst rv_2
  refine lv_istore (lv' := [(7, .int 0), (6, .int 1), (0, .ref b), (1, .ref N0), (2, .ref (N0 + 164)), (3, .ref (N0 + 229)), (4, .ref (N0 + 230)), (5, .int 0)]) S.1 S.2.1 dL_law_2053 hl (by decide) rfl (fun ls hl => ?_)
  refine lv_aload_n S.1 S.2.1 dL_law_2055 rfl (lv_at hl 4 rfl) ?_
  refine fx_cVi (As := []) (rest := []) S hG (k25_X10_thrown (by omega) fu_s) fu_s rfl (cwV 0 S.2.2.2.2 gL_law_X10_thrown rfl rfl rfl (by decide +kernel) ⟨Nat.le_of_ble_eq_true rfl, Nat.le_of_ble_eq_true rfl⟩) rfl hl.1 rfl (Nat.le_of_ble_eq_true rfl) dL_law_2056 ⟨Nat.le_of_ble_eq_true rfl, Nat.le_of_ble_eq_true rfl⟩ (fun rv_3 _ H locs hp hG => ?_)
  subst rv_3
  refine lv_iload S.1 S.2.1 dL_law_2059 (lv_at hl 1 rfl) ?_
  refine lv_icmp_eq (tgt := 2066) S.1 S.2.1 dL_law_2061 (by decide) (fun _ => ?_) (fun c => absurd (by decide) c)
  refine lv_iload S.1 S.2.1 dL_law_2066 (lv_at hl 1 rfl) ?_
  refine lv_if_ne (tgt := 2083) S.1 S.2.1 dL_law_2068 (by decide) (fun _ => ?_) (fun c => absurd c (by decide))
  refine lv_goto (tgt := 2650) S.1 S.2.1 dL_law_2083 (by decide) ?_
  refine lv_iinc (v := 5) (lv' := [(5, .int 5), (7, .int 0), (6, .int 1), (0, .ref b), (1, .ref N0), (2, .ref (N0 + 164)), (3, .ref (N0 + 229)), (4, .ref (N0 + 230))]) S.1 S.2.1 dL_law_2650 hl (k := 7) rfl (by decide) (by decide) rfl (fun ls hl => ?_)
  refine lv_goto (tgt := 28) S.1 S.2.1 dL_law_2653 (by decide) ?_
  refine lv_iload S.1 S.2.1 dL_law_28 (lv_at hl 0 rfl) ?_
  refine lv_aload_n S.1 S.2.1 dL_law_30 rfl (lv_at hl 3 rfl) ?_
  refine gx_slen (v := 5) S hG hX hbl rfl dL_law_31 ?_
  refine lv_iconst (v := 5) S.1 S.2.1 dL_law_32 (by decide) ?_
  refine lv_isub S.1 S.2.1 dL_law_33 ?_
  refine fx_topi (y := 0) (by decide) ?_
  refine lv_icmp_gt (tgt := 2656) S.1 S.2.1 dL_law_34 (by decide) (fun _ => ?_) (fun c => absurd (by decide) c)
  refine lv_iconst (v := 1) S.1 S.2.1 dL_law_2656 (by decide) ?_
  refine va_forget (fun q hq => by rw [hN]; exact hG.2.1.2.2 q hq) ?_
  refine W.widen (k := 600002) (n := 7302232) (by decide) (by decide) ?_
  exact lw_ret (d0 := s.drawn) (Drawn.sameBut.refl _ _) S.1 S.2.1 hr hlocks dL_law_2657
theorem l26_16 {p : Program} {e : Env} {s : State} {m : MethodId} {below : List Frame} {meth : Method} {c : Code} {b : Nat} {xs : Nat → Int32} {H : Heap} {locs : List Loc} {ls : Array Slot} {n : Nat} {a1 a2 a3 a4 : Int32} (g_a1_ge_3 : 3 ≤ a1) (S : CallFix p m c cL_law 9 s #[.ref b] wsL_law "TreeDifferLaw") (hr : meth.sig.returnType = ret) (hlocks : meth.locks = false) (hst : l.stackTraces = false) (hX : va_X b 5 xs s s.heap) (hbl : b < s.heap.size ∧ b < N0) (hN : s.heap.size = N0) (hn : N0 + 231 ≤ n) (hx1 : xs 1 = a1) (hx2 : xs 2 = a2) (hx3 : xs 3 = a3) (hx4 : xs 4 = a4) (h0 : F N0 = some (.inr (9, [.ref (N0 + 1), .ref (N0 + 2), .ref (N0 + 11), .ref (N0 + 13), .ref (N0 + 63), .ref (N0 + 65), .ref (N0 + 85), .int (-1), .int (-1), .int 32]))) (h1 : F (N0 + 164) = some (.inr (12, [.ref (N0 + 165), .int 0, .ref (N0 + 181), .int 0, .int 0, .int 0, .int (-1), .ref (ql 24), .ref (N0 + 182), .ref (N0 + 187), .ref (N0 + 208), .ref (N0 + 209), .ref (N0 + 210), .ref (N0 + 211), .ref (N0 + 212), .int 0, .ref (N0 + 213), .ref (N0 + 218), .ref (N0 + 223), .ref (N0 + 224), .ref (N0 + 225), .ref (N0 + 226), .ref (N0 + 227), .int 0, .int 0, .ref (N0 + 228), .null, .int (-1), .int 0, .int 0, .int 0]))) (hG : fG N0 D vwCl (fty cI cC cL cD cII cTr cTm cIt cB) (fen ql) s F n H locs) (hl : lv_has ls 9 [(0, .ref b), (1, .ref N0), (2, .ref (N0 + 164)), (3, .ref (N0 + 229)), (4, .ref (N0 + 230)), (5, .int 0)]) : W p l e { frames := 2048, cells := 600002, slots := 7302232, locals := 84000 } s m #[.ref b] below meth c H locs 231 4980 (lw_Z below #[.ref b] s) (F0 m 2018 ls []) := by
  have lt_h0 := hG.1.lt h0
  have lt_h1 := hG.1.lt h1
  refine lv_aload_n S.1 S.2.1 dL_law_2018 rfl (lv_at hl 1 rfl) ?_
  refine lv_aload_n S.1 S.2.1 dL_law_2019 rfl (lv_at hl 0 rfl) ?_
  refine lv_iload S.1 S.2.1 dL_law_2020 (lv_at hl 5 rfl) ?_
  refine lv_iconst (v := 1) S.1 S.2.1 dL_law_2022 (by decide) ?_
  refine lv_iadd S.1 S.2.1 dL_law_2023 ?_
  refine fx_topi (y := 1) (by decide) ?_
  refine gx_sld (v := a1) S hG hX hbl (fin_l (by decide)) hx1 dL_law_2024 ?_
  refine lv_aload_n S.1 S.2.1 dL_law_2025 rfl (lv_at hl 0 rfl) ?_
  refine lv_iload S.1 S.2.1 dL_law_2026 (lv_at hl 5 rfl) ?_
  refine lv_iconst (v := 2) S.1 S.2.1 dL_law_2028 (by decide) ?_
  refine lv_iadd S.1 S.2.1 dL_law_2029 ?_
  refine fx_topi (y := 2) (by decide) ?_
  refine gx_sld (v := a2) S hG hX hbl (fin_l (by decide)) hx2 dL_law_2030 ?_
  refine lv_aload_n S.1 S.2.1 dL_law_2031 rfl (lv_at hl 3 rfl) ?_
  refine fx_cTi (As := [.ref N0, .int a1, .int a2, .ref (N0 + 229)]) (rest := []) S hG (k1524_L_diff g_a1_ge_3 hst (by omega) h0) (vx_cwSW 4 S.2.2.2.2 gL_law_L_diff rfl rfl rfl (by decide +kernel) ⟨Nat.le_of_ble_eq_true rfl, Nat.le_of_ble_eq_true rfl⟩) rfl hl.1 rfl (Nat.le_of_ble_eq_true rfl) dL_law_2032 ⟨Nat.le_of_ble_eq_true rfl, Nat.le_of_ble_eq_true rfl⟩ (fun rv_u_1 u_1 H locs hp hG => ?_)
  obtain ⟨rfl, hu_1⟩ := hp
  refine W.widen (k := 232) (n := 4986) (by decide) (by decide) ?_
  refine lv_istore (lv' := [(6, .int 1), (0, .ref b), (1, .ref N0), (2, .ref (N0 + 164)), (3, .ref (N0 + 229)), (4, .ref (N0 + 230)), (5, .int 0)]) S.1 S.2.1 dL_law_2035 hl (by decide) rfl (fun ls hl => ?_)
  refine lv_aload_n S.1 S.2.1 dL_law_2037 rfl (lv_at hl 3 rfl) ?_
  refine lv_aload_n S.1 S.2.1 dL_law_2038 rfl (lv_at hl 1 rfl) ?_
  refine lv_iload S.1 S.2.1 dL_law_2039 (lv_at hl 6 rfl) ?_
  refine lv_iconst (v := 1) S.1 S.2.1 dL_law_2041 (by decide) ?_
  refine lv_iadd S.1 S.2.1 dL_law_2042 ?_
  refine fx_topi (y := 1) (by decide) ?_
  refine gx_sld (v := a1) S hG hX hbl (fin_l (by decide)) hx1 dL_law_2043 ?_
  refine lv_aload_n S.1 S.2.1 dL_law_2044 rfl (lv_at hl 1 rfl) ?_
  refine lv_iload S.1 S.2.1 dL_law_2045 (lv_at hl 6 rfl) ?_
  refine lv_iconst (v := 2) S.1 S.2.1 dL_law_2047 (by decide) ?_
  refine lv_iadd S.1 S.2.1 dL_law_2048 ?_
  refine fx_topi (y := 2) (by decide) ?_
  refine gx_sld (v := a2) S hG hX hbl (fin_l (by decide)) hx2 dL_law_2049 ?_
  refine fx_cVi (As := [.int a1, .int a2]) (rest := []) S hG (k1525_X10_diff g_a1_ge_3 (by omega) h1) h1 rfl (cwV 2 S.2.2.2.2 gL_law_X10_diff rfl rfl rfl (by decide +kernel) ⟨Nat.le_of_ble_eq_true rfl, Nat.le_of_ble_eq_true rfl⟩) rfl hl.1 rfl (Nat.le_of_ble_eq_true rfl) dL_law_2050 ⟨Nat.le_of_ble_eq_true rfl, Nat.le_of_ble_eq_true rfl⟩ (fun rv_2 _ H locs hp hG => ?_)
  subst rv_2
  refine lv_istore (lv' := [(7, .int 0), (6, .int 1), (0, .ref b), (1, .ref N0), (2, .ref (N0 + 164)), (3, .ref (N0 + 229)), (4, .ref (N0 + 230)), (5, .int 0)]) S.1 S.2.1 dL_law_2053 hl (by decide) rfl (fun ls hl => ?_)
  refine lv_aload_n S.1 S.2.1 dL_law_2055 rfl (lv_at hl 4 rfl) ?_
  refine fx_cVi (As := []) (rest := []) S hG (k25_X10_thrown (by omega) fu_s) fu_s rfl (cwV 0 S.2.2.2.2 gL_law_X10_thrown rfl rfl rfl (by decide +kernel) ⟨Nat.le_of_ble_eq_true rfl, Nat.le_of_ble_eq_true rfl⟩) rfl hl.1 rfl (Nat.le_of_ble_eq_true rfl) dL_law_2056 ⟨Nat.le_of_ble_eq_true rfl, Nat.le_of_ble_eq_true rfl⟩ (fun rv_3 _ H locs hp hG => ?_)
  subst rv_3
  refine lv_iload S.1 S.2.1 dL_law_2059 (lv_at hl 1 rfl) ?_
  refine lv_icmp_eq (tgt := 2066) S.1 S.2.1 dL_law_2061 (by decide) (fun _ => ?_) (fun c => absurd (by decide) c)
  refine lv_iload S.1 S.2.1 dL_law_2066 (lv_at hl 1 rfl) ?_
  refine lv_if_ne (tgt := 2083) S.1 S.2.1 dL_law_2068 (by decide) (fun _ => ?_) (fun c => absurd c (by decide))
  refine lv_goto (tgt := 2650) S.1 S.2.1 dL_law_2083 (by decide) ?_
  refine lv_iinc (v := 5) (lv' := [(5, .int 5), (7, .int 0), (6, .int 1), (0, .ref b), (1, .ref N0), (2, .ref (N0 + 164)), (3, .ref (N0 + 229)), (4, .ref (N0 + 230))]) S.1 S.2.1 dL_law_2650 hl (k := 7) rfl (by decide) (by decide) rfl (fun ls hl => ?_)
  refine lv_goto (tgt := 28) S.1 S.2.1 dL_law_2653 (by decide) ?_
  refine lv_iload S.1 S.2.1 dL_law_28 (lv_at hl 0 rfl) ?_
  refine lv_aload_n S.1 S.2.1 dL_law_30 rfl (lv_at hl 3 rfl) ?_
  refine gx_slen (v := 5) S hG hX hbl rfl dL_law_31 ?_
  refine lv_iconst (v := 5) S.1 S.2.1 dL_law_32 (by decide) ?_
  refine lv_isub S.1 S.2.1 dL_law_33 ?_
  refine fx_topi (y := 0) (by decide) ?_
  refine lv_icmp_gt (tgt := 2656) S.1 S.2.1 dL_law_34 (by decide) (fun _ => ?_) (fun c => absurd (by decide) c)
  refine lv_iconst (v := 1) S.1 S.2.1 dL_law_2656 (by decide) ?_
  refine va_forget (fun q hq => by rw [hN]; exact hG.2.1.2.2 q hq) ?_
  refine W.widen (k := 600002) (n := 7302232) (by decide) (by decide) ?_
  exact lw_ret (d0 := s.drawn) (Drawn.sameBut.refl _ _) S.1 S.2.1 hr hlocks dL_law_2657
theorem case_26 {p : Program} {e : Env} {s : State} {m : MethodId} {below : List Frame} {meth : Method} {c : Code} {b : Nat} {xs : Nat → Int32} {H : Heap} {locs : List Loc} {ls : Array Slot} {n : Nat} {a1 a2 a3 a4 : Int32} (S : CallFix p m c cL_law 9 s #[.ref b] wsL_law "TreeDifferLaw") (hr : meth.sig.returnType = ret) (hlocks : meth.locks = false) (hst : l.stackTraces = false) (hX : va_X b 5 xs s s.heap) (hbl : b < s.heap.size ∧ b < N0) (hN : s.heap.size = N0) (hn : N0 + 231 ≤ n) (hx1 : xs 1 = a1) (hx2 : xs 2 = a2) (hx3 : xs 3 = a3) (hx4 : xs 4 = a4) (hL : ∀ (i : Nat) (q : Nat × va_E), (lneed N0 cI cC cL cD cII cTr cTm cIt cB ql)[i]? = some q → F (N0 + q.1) = some q.2) (hG : fG N0 D vwCl (fty cI cC cL cD cII cTr cTm cIt cB) (fen ql) s F n H locs) (hl : lv_has ls 9 [(0, .ref b), (1, .ref N0), (2, .ref (N0 + 164)), (3, .ref (N0 + 229)), (4, .ref (N0 + 230)), (5, .int 0)]) : W p l e { frames := 2048, cells := 600002, slots := 7302232, locals := 84000 } s m #[.ref b] below meth c H locs 231 4980 (lw_Z below #[.ref b] s) (F0 m 2018 ls []) := by
  have hn1 := pk_nc a1
  have hf1 := pk_fc a1
  have hv1 := pk_vc a1
  obtain ⟨g_c1_ge_0, g_c1_le_65535⟩ := fl_c0 a1
  generalize hc1 : (a1.toUInt32 % 65536).toInt32 = c1 at *
  have hn2 := pk_nc a2
  have hf2 := pk_fc a2
  have hv2 := pk_vc a2
  obtain ⟨g_c2_ge_0, g_c2_le_65535⟩ := fl_c0 a2
  generalize hc2 : (a2.toUInt32 % 65536).toInt32 = c2 at *
  have hn3 := pk_nc a3
  have hf3 := pk_fc a3
  have hv3 := pk_vc a3
  obtain ⟨g_c3_ge_0, g_c3_le_65535⟩ := fl_c0 a3
  generalize hc3 : (a3.toUInt32 % 65536).toInt32 = c3 at *
  have hn4 := pk_nc a4
  have hf4 := pk_fc a4
  have hv4 := pk_vc a4
  obtain ⟨g_c4_ge_0, g_c4_le_65535⟩ := fl_c0 a4
  generalize hc4 : (a4.toUInt32 % 65536).toInt32 = c4 at *
  rcases fl_cut a1 0 (-1) (by decide) with g_a1_le_m1 | g_a1_ge_0
  · skip
    exact l26_0 g_a1_le_m1 S hr hlocks hst hX hbl hN hn hx1 hx2 hx3 hx4 (hL 0 _ rfl) (hL 4 _ rfl) hG hl
  · skip
    rcases fl_cut a1 3 2 (by decide) with g_a1_le_2 | g_a1_ge_3
    · skip
      rcases fl_cut a1 1 0 (by decide) with g_a1_le_0 | g_a1_ge_1
      · skip
        obtain rfl : a1 = 0 := Int32.le_antisymm g_a1_le_0 g_a1_ge_0
        rcases fl_cut a2 0 (-1) (by decide) with g_a2_le_m1 | g_a2_ge_0
        · skip
          exact l26_1 g_a2_le_m1 S hr hlocks hst hX hbl hN hn hx1 hx2 hx3 hx4 (hL 0 _ rfl) (hL 6 _ rfl) (hL 4 _ rfl) hG hl
        · skip
          rcases fl_cut a2 3 2 (by decide) with g_a2_le_2 | g_a2_ge_3
          · skip
            rcases fl_cut a2 1 0 (by decide) with g_a2_le_0 | g_a2_ge_1
            · skip
              obtain rfl : a2 = 0 := Int32.le_antisymm g_a2_le_0 g_a2_ge_0
              exact l26_2 S hr hlocks hst hX hbl hN hn hx1 hx2 hx3 hx4 (hL 0 _ rfl) (hL 6 _ rfl) (hL 9 _ rfl) (hL 10 _ rfl) (hL 59 _ rfl) (hL 13 _ rfl) (hL 60 _ rfl) (hL 14 _ rfl) (hL 61 _ rfl) (hL 15 _ rfl) (hL 62 _ rfl) (hL 16 _ rfl) (hL 63 _ rfl) (hL 64 _ rfl) (hL 65 _ rfl) (hL 66 _ rfl) (hL 67 _ rfl) (hL 68 _ rfl) (hL 47 _ rfl) (hL 48 _ rfl) (hL 49 _ rfl) (hL 50 _ rfl) (hL 51 _ rfl) (hL 52 _ rfl) (hL 53 _ rfl) (hL 69 _ rfl) (hL 70 _ rfl) (hL 71 _ rfl) (hL 72 _ rfl) (hL 3 _ rfl) (hL 4 _ rfl) (hL 11 _ rfl) (hL 12 _ rfl) (hL 73 _ rfl) (hL 18 _ rfl) (hL 19 _ rfl) (hL 20 _ rfl) (hL 21 _ rfl) (hL 74 _ rfl) (hL 75 _ rfl) (hL 76 _ rfl) (hL 77 _ rfl) (hL 78 _ rfl) (hL 79 _ rfl) (hL 80 _ rfl) (hL 81 _ rfl) (hL 82 _ rfl) (hL 83 _ rfl) (hL 84 _ rfl) (hL 54 _ rfl) (hL 55 _ rfl) (hL 85 _ rfl) (hL 86 _ rfl) hG hl
            · skip
              rcases fl_cut a2 2 1 (by decide) with g_a2_le_1 | g_a2_ge_2
              · skip
                obtain rfl : a2 = 1 := Int32.le_antisymm g_a2_le_1 g_a2_ge_1
                exact l26_3 S hr hlocks hst hX hbl hN hn hx1 hx2 hx3 hx4 (hL 0 _ rfl) (hL 6 _ rfl) (hL 9 _ rfl) (hL 10 _ rfl) (hL 59 _ rfl) (hL 13 _ rfl) (hL 60 _ rfl) (hL 14 _ rfl) (hL 61 _ rfl) (hL 15 _ rfl) (hL 62 _ rfl) (hL 16 _ rfl) (hL 63 _ rfl) (hL 22 _ rfl) (hL 64 _ rfl) (hL 24 _ rfl) (hL 65 _ rfl) (hL 25 _ rfl) (hL 66 _ rfl) (hL 26 _ rfl) (hL 67 _ rfl) (hL 27 _ rfl) (hL 68 _ rfl) (hL 47 _ rfl) (hL 48 _ rfl) (hL 49 _ rfl) (hL 50 _ rfl) (hL 51 _ rfl) (hL 52 _ rfl) (hL 53 _ rfl) (hL 69 _ rfl) (hL 70 _ rfl) (hL 71 _ rfl) (hL 72 _ rfl) (hL 3 _ rfl) (hL 4 _ rfl) (hL 11 _ rfl) (hL 12 _ rfl) (hL 73 _ rfl) (hL 18 _ rfl) (hL 19 _ rfl) (hL 20 _ rfl) (hL 21 _ rfl) (hL 74 _ rfl) (hL 75 _ rfl) (hL 76 _ rfl) (hL 77 _ rfl) (hL 23 _ rfl) (hL 78 _ rfl) (hL 29 _ rfl) (hL 30 _ rfl) (hL 31 _ rfl) (hL 32 _ rfl) (hL 79 _ rfl) (hL 80 _ rfl) (hL 81 _ rfl) (hL 82 _ rfl) (hL 83 _ rfl) (hL 84 _ rfl) (hL 54 _ rfl) (hL 55 _ rfl) (hL 85 _ rfl) (hL 86 _ rfl) hG hl
              · skip
                obtain rfl : a2 = 2 := Int32.le_antisymm g_a2_le_2 g_a2_ge_2
                exact l26_4 S hr hlocks hst hX hbl hN hn hx1 hx2 hx3 hx4 (hL 0 _ rfl) (hL 6 _ rfl) (hL 9 _ rfl) (hL 10 _ rfl) (hL 59 _ rfl) (hL 13 _ rfl) (hL 60 _ rfl) (hL 14 _ rfl) (hL 61 _ rfl) (hL 15 _ rfl) (hL 62 _ rfl) (hL 16 _ rfl) (hL 63 _ rfl) (hL 33 _ rfl) (hL 64 _ rfl) (hL 35 _ rfl) (hL 65 _ rfl) (hL 36 _ rfl) (hL 66 _ rfl) (hL 37 _ rfl) (hL 67 _ rfl) (hL 38 _ rfl) (hL 68 _ rfl) (hL 47 _ rfl) (hL 48 _ rfl) (hL 49 _ rfl) (hL 50 _ rfl) (hL 51 _ rfl) (hL 52 _ rfl) (hL 53 _ rfl) (hL 69 _ rfl) (hL 70 _ rfl) (hL 71 _ rfl) (hL 72 _ rfl) (hL 3 _ rfl) (hL 4 _ rfl) (hL 11 _ rfl) (hL 12 _ rfl) (hL 73 _ rfl) (hL 18 _ rfl) (hL 19 _ rfl) (hL 20 _ rfl) (hL 21 _ rfl) (hL 74 _ rfl) (hL 75 _ rfl) (hL 76 _ rfl) (hL 77 _ rfl) (hL 34 _ rfl) (hL 78 _ rfl) (hL 40 _ rfl) (hL 41 _ rfl) (hL 42 _ rfl) (hL 43 _ rfl) (hL 79 _ rfl) (hL 80 _ rfl) (hL 81 _ rfl) (hL 82 _ rfl) (hL 83 _ rfl) (hL 84 _ rfl) (hL 54 _ rfl) (hL 55 _ rfl) (hL 85 _ rfl) (hL 86 _ rfl) hG hl
          · skip
            exact l26_5 g_a2_ge_3 S hr hlocks hst hX hbl hN hn hx1 hx2 hx3 hx4 (hL 0 _ rfl) (hL 6 _ rfl) (hL 4 _ rfl) hG hl
      · skip
        rcases fl_cut a1 2 1 (by decide) with g_a1_le_1 | g_a1_ge_2
        · skip
          obtain rfl : a1 = 1 := Int32.le_antisymm g_a1_le_1 g_a1_ge_1
          rcases fl_cut a2 0 (-1) (by decide) with g_a2_le_m1 | g_a2_ge_0
          · skip
            exact l26_6 g_a2_le_m1 S hr hlocks hst hX hbl hN hn hx1 hx2 hx3 hx4 (hL 0 _ rfl) (hL 6 _ rfl) (hL 4 _ rfl) hG hl
          · skip
            rcases fl_cut a2 3 2 (by decide) with g_a2_le_2 | g_a2_ge_3
            · skip
              rcases fl_cut a2 1 0 (by decide) with g_a2_le_0 | g_a2_ge_1
              · skip
                obtain rfl : a2 = 0 := Int32.le_antisymm g_a2_le_0 g_a2_ge_0
                exact l26_7 S hr hlocks hst hX hbl hN hn hx1 hx2 hx3 hx4 (hL 0 _ rfl) (hL 6 _ rfl) (hL 9 _ rfl) (hL 22 _ rfl) (hL 59 _ rfl) (hL 24 _ rfl) (hL 60 _ rfl) (hL 25 _ rfl) (hL 61 _ rfl) (hL 26 _ rfl) (hL 62 _ rfl) (hL 27 _ rfl) (hL 63 _ rfl) (hL 10 _ rfl) (hL 64 _ rfl) (hL 13 _ rfl) (hL 65 _ rfl) (hL 14 _ rfl) (hL 66 _ rfl) (hL 15 _ rfl) (hL 67 _ rfl) (hL 16 _ rfl) (hL 68 _ rfl) (hL 47 _ rfl) (hL 48 _ rfl) (hL 49 _ rfl) (hL 50 _ rfl) (hL 51 _ rfl) (hL 52 _ rfl) (hL 53 _ rfl) (hL 69 _ rfl) (hL 70 _ rfl) (hL 71 _ rfl) (hL 72 _ rfl) (hL 3 _ rfl) (hL 4 _ rfl) (hL 11 _ rfl) (hL 23 _ rfl) (hL 73 _ rfl) (hL 29 _ rfl) (hL 30 _ rfl) (hL 31 _ rfl) (hL 32 _ rfl) (hL 74 _ rfl) (hL 75 _ rfl) (hL 76 _ rfl) (hL 77 _ rfl) (hL 12 _ rfl) (hL 78 _ rfl) (hL 18 _ rfl) (hL 19 _ rfl) (hL 20 _ rfl) (hL 21 _ rfl) (hL 79 _ rfl) (hL 80 _ rfl) (hL 81 _ rfl) (hL 82 _ rfl) (hL 83 _ rfl) (hL 84 _ rfl) (hL 54 _ rfl) (hL 55 _ rfl) (hL 85 _ rfl) (hL 86 _ rfl) hG hl
              · skip
                rcases fl_cut a2 2 1 (by decide) with g_a2_le_1 | g_a2_ge_2
                · skip
                  obtain rfl : a2 = 1 := Int32.le_antisymm g_a2_le_1 g_a2_ge_1
                  exact l26_8 S hr hlocks hst hX hbl hN hn hx1 hx2 hx3 hx4 (hL 0 _ rfl) (hL 6 _ rfl) (hL 9 _ rfl) (hL 22 _ rfl) (hL 59 _ rfl) (hL 24 _ rfl) (hL 60 _ rfl) (hL 25 _ rfl) (hL 61 _ rfl) (hL 26 _ rfl) (hL 62 _ rfl) (hL 27 _ rfl) (hL 63 _ rfl) (hL 64 _ rfl) (hL 65 _ rfl) (hL 66 _ rfl) (hL 67 _ rfl) (hL 68 _ rfl) (hL 47 _ rfl) (hL 48 _ rfl) (hL 49 _ rfl) (hL 50 _ rfl) (hL 51 _ rfl) (hL 52 _ rfl) (hL 53 _ rfl) (hL 69 _ rfl) (hL 70 _ rfl) (hL 71 _ rfl) (hL 72 _ rfl) (hL 3 _ rfl) (hL 4 _ rfl) (hL 11 _ rfl) (hL 23 _ rfl) (hL 73 _ rfl) (hL 29 _ rfl) (hL 30 _ rfl) (hL 31 _ rfl) (hL 32 _ rfl) (hL 74 _ rfl) (hL 75 _ rfl) (hL 76 _ rfl) (hL 77 _ rfl) (hL 78 _ rfl) (hL 79 _ rfl) (hL 80 _ rfl) (hL 81 _ rfl) (hL 82 _ rfl) (hL 83 _ rfl) (hL 84 _ rfl) (hL 54 _ rfl) (hL 55 _ rfl) (hL 85 _ rfl) (hL 86 _ rfl) hG hl
                · skip
                  obtain rfl : a2 = 2 := Int32.le_antisymm g_a2_le_2 g_a2_ge_2
                  exact l26_9 S hr hlocks hst hX hbl hN hn hx1 hx2 hx3 hx4 (hL 0 _ rfl) (hL 6 _ rfl) (hL 9 _ rfl) (hL 22 _ rfl) (hL 59 _ rfl) (hL 24 _ rfl) (hL 60 _ rfl) (hL 25 _ rfl) (hL 61 _ rfl) (hL 26 _ rfl) (hL 62 _ rfl) (hL 27 _ rfl) (hL 63 _ rfl) (hL 33 _ rfl) (hL 64 _ rfl) (hL 35 _ rfl) (hL 65 _ rfl) (hL 36 _ rfl) (hL 66 _ rfl) (hL 37 _ rfl) (hL 67 _ rfl) (hL 38 _ rfl) (hL 68 _ rfl) (hL 47 _ rfl) (hL 48 _ rfl) (hL 49 _ rfl) (hL 50 _ rfl) (hL 51 _ rfl) (hL 52 _ rfl) (hL 53 _ rfl) (hL 69 _ rfl) (hL 70 _ rfl) (hL 71 _ rfl) (hL 72 _ rfl) (hL 3 _ rfl) (hL 4 _ rfl) (hL 11 _ rfl) (hL 23 _ rfl) (hL 73 _ rfl) (hL 29 _ rfl) (hL 30 _ rfl) (hL 31 _ rfl) (hL 32 _ rfl) (hL 74 _ rfl) (hL 75 _ rfl) (hL 76 _ rfl) (hL 77 _ rfl) (hL 34 _ rfl) (hL 78 _ rfl) (hL 40 _ rfl) (hL 41 _ rfl) (hL 42 _ rfl) (hL 43 _ rfl) (hL 79 _ rfl) (hL 80 _ rfl) (hL 81 _ rfl) (hL 82 _ rfl) (hL 83 _ rfl) (hL 84 _ rfl) (hL 54 _ rfl) (hL 55 _ rfl) (hL 85 _ rfl) (hL 86 _ rfl) hG hl
            · skip
              exact l26_10 g_a2_ge_3 S hr hlocks hst hX hbl hN hn hx1 hx2 hx3 hx4 (hL 0 _ rfl) (hL 6 _ rfl) (hL 4 _ rfl) hG hl
        · skip
          obtain rfl : a1 = 2 := Int32.le_antisymm g_a1_le_2 g_a1_ge_2
          rcases fl_cut a2 0 (-1) (by decide) with g_a2_le_m1 | g_a2_ge_0
          · skip
            exact l26_11 g_a2_le_m1 S hr hlocks hst hX hbl hN hn hx1 hx2 hx3 hx4 (hL 0 _ rfl) (hL 6 _ rfl) (hL 4 _ rfl) hG hl
          · skip
            rcases fl_cut a2 3 2 (by decide) with g_a2_le_2 | g_a2_ge_3
            · skip
              rcases fl_cut a2 1 0 (by decide) with g_a2_le_0 | g_a2_ge_1
              · skip
                obtain rfl : a2 = 0 := Int32.le_antisymm g_a2_le_0 g_a2_ge_0
                exact l26_12 S hr hlocks hst hX hbl hN hn hx1 hx2 hx3 hx4 (hL 0 _ rfl) (hL 6 _ rfl) (hL 9 _ rfl) (hL 33 _ rfl) (hL 59 _ rfl) (hL 35 _ rfl) (hL 60 _ rfl) (hL 36 _ rfl) (hL 61 _ rfl) (hL 37 _ rfl) (hL 62 _ rfl) (hL 38 _ rfl) (hL 63 _ rfl) (hL 10 _ rfl) (hL 64 _ rfl) (hL 13 _ rfl) (hL 65 _ rfl) (hL 14 _ rfl) (hL 66 _ rfl) (hL 15 _ rfl) (hL 67 _ rfl) (hL 16 _ rfl) (hL 68 _ rfl) (hL 47 _ rfl) (hL 48 _ rfl) (hL 49 _ rfl) (hL 50 _ rfl) (hL 51 _ rfl) (hL 52 _ rfl) (hL 53 _ rfl) (hL 69 _ rfl) (hL 70 _ rfl) (hL 71 _ rfl) (hL 72 _ rfl) (hL 3 _ rfl) (hL 4 _ rfl) (hL 11 _ rfl) (hL 34 _ rfl) (hL 73 _ rfl) (hL 40 _ rfl) (hL 41 _ rfl) (hL 42 _ rfl) (hL 43 _ rfl) (hL 74 _ rfl) (hL 75 _ rfl) (hL 76 _ rfl) (hL 77 _ rfl) (hL 12 _ rfl) (hL 78 _ rfl) (hL 18 _ rfl) (hL 19 _ rfl) (hL 20 _ rfl) (hL 21 _ rfl) (hL 79 _ rfl) (hL 80 _ rfl) (hL 81 _ rfl) (hL 82 _ rfl) (hL 83 _ rfl) (hL 84 _ rfl) (hL 54 _ rfl) (hL 55 _ rfl) (hL 85 _ rfl) (hL 86 _ rfl) hG hl
              · skip
                rcases fl_cut a2 2 1 (by decide) with g_a2_le_1 | g_a2_ge_2
                · skip
                  obtain rfl : a2 = 1 := Int32.le_antisymm g_a2_le_1 g_a2_ge_1
                  exact l26_13 S hr hlocks hst hX hbl hN hn hx1 hx2 hx3 hx4 (hL 0 _ rfl) (hL 6 _ rfl) (hL 9 _ rfl) (hL 33 _ rfl) (hL 59 _ rfl) (hL 35 _ rfl) (hL 60 _ rfl) (hL 36 _ rfl) (hL 61 _ rfl) (hL 37 _ rfl) (hL 62 _ rfl) (hL 38 _ rfl) (hL 63 _ rfl) (hL 22 _ rfl) (hL 64 _ rfl) (hL 24 _ rfl) (hL 65 _ rfl) (hL 25 _ rfl) (hL 66 _ rfl) (hL 26 _ rfl) (hL 67 _ rfl) (hL 27 _ rfl) (hL 68 _ rfl) (hL 47 _ rfl) (hL 48 _ rfl) (hL 49 _ rfl) (hL 50 _ rfl) (hL 51 _ rfl) (hL 52 _ rfl) (hL 53 _ rfl) (hL 69 _ rfl) (hL 70 _ rfl) (hL 71 _ rfl) (hL 72 _ rfl) (hL 3 _ rfl) (hL 4 _ rfl) (hL 11 _ rfl) (hL 34 _ rfl) (hL 73 _ rfl) (hL 40 _ rfl) (hL 41 _ rfl) (hL 42 _ rfl) (hL 43 _ rfl) (hL 74 _ rfl) (hL 75 _ rfl) (hL 76 _ rfl) (hL 77 _ rfl) (hL 23 _ rfl) (hL 78 _ rfl) (hL 29 _ rfl) (hL 30 _ rfl) (hL 31 _ rfl) (hL 32 _ rfl) (hL 79 _ rfl) (hL 80 _ rfl) (hL 81 _ rfl) (hL 82 _ rfl) (hL 83 _ rfl) (hL 84 _ rfl) (hL 54 _ rfl) (hL 55 _ rfl) (hL 85 _ rfl) (hL 86 _ rfl) hG hl
                · skip
                  obtain rfl : a2 = 2 := Int32.le_antisymm g_a2_le_2 g_a2_ge_2
                  exact l26_14 S hr hlocks hst hX hbl hN hn hx1 hx2 hx3 hx4 (hL 0 _ rfl) (hL 6 _ rfl) (hL 9 _ rfl) (hL 33 _ rfl) (hL 59 _ rfl) (hL 35 _ rfl) (hL 60 _ rfl) (hL 36 _ rfl) (hL 61 _ rfl) (hL 37 _ rfl) (hL 62 _ rfl) (hL 38 _ rfl) (hL 63 _ rfl) (hL 64 _ rfl) (hL 65 _ rfl) (hL 66 _ rfl) (hL 67 _ rfl) (hL 68 _ rfl) (hL 47 _ rfl) (hL 48 _ rfl) (hL 49 _ rfl) (hL 50 _ rfl) (hL 51 _ rfl) (hL 52 _ rfl) (hL 53 _ rfl) (hL 69 _ rfl) (hL 70 _ rfl) (hL 71 _ rfl) (hL 72 _ rfl) (hL 3 _ rfl) (hL 4 _ rfl) (hL 11 _ rfl) (hL 34 _ rfl) (hL 73 _ rfl) (hL 40 _ rfl) (hL 41 _ rfl) (hL 42 _ rfl) (hL 43 _ rfl) (hL 74 _ rfl) (hL 75 _ rfl) (hL 76 _ rfl) (hL 77 _ rfl) (hL 78 _ rfl) (hL 79 _ rfl) (hL 80 _ rfl) (hL 81 _ rfl) (hL 82 _ rfl) (hL 83 _ rfl) (hL 84 _ rfl) (hL 54 _ rfl) (hL 55 _ rfl) (hL 85 _ rfl) (hL 86 _ rfl) hG hl
            · skip
              exact l26_15 g_a2_ge_3 S hr hlocks hst hX hbl hN hn hx1 hx2 hx3 hx4 (hL 0 _ rfl) (hL 6 _ rfl) (hL 4 _ rfl) hG hl
    · skip
      exact l26_16 g_a1_ge_3 S hr hlocks hst hX hbl hN hn hx1 hx2 hx3 hx4 (hL 0 _ rfl) (hL 4 _ rfl) hG hl
