variable {l : Launch} {N0 : Nat} {D : va_G} {cI cC cL cD cII cTr cTm cIt : ClassId} {F : Nat → Option va_E}
theorem i_X5_init_X5 : ∀ w ∈ u_ws RX5 TX5 7, w ∈ wsX5_init := by decide +kernel
theorem c_X5_init {t n : Nat} (h0 : F t = some (.inr (7, [.null, .null, .null, .null, .null, .null, .int 0]))) : Met l yX5_init wsX5_init ({ frames := 1, cells := 6, slots := 120, locals := 12 }) (va_Pc [.ref t] (fP N0 D vwCl (fty cI cC cL cD cII cTr cTm cIt) fen F n)) (fQv N0 D vwCl (fty cI cC cL cD cII cTr cTm cIt) (fun (_ : Unit) => True) (fun _ => (fblk (fu F t (.inr (7, [.ref n, .ref (n + 1), .ref (n + 2), .ref (n + 3), .ref (n + 4), .ref (n + 5), .int 1]))) n [.inl (cC, 20, .inl (upd (fun _ => 0) 0 97)), .inl (cI, 20, .inl (fun _ => 0)), .inl (cI, 20, .inl (fun _ => 0)), .inl (cI, 20, .inl (upd (fun _ => 0) 0 (-1))), .inl (cI, 20, .inl (fun _ => 0)), .inl (cI, 20, .inl (fun _ => 0))])) (fun _ => (n + 6))) 6 120 (fA N0) := by
  refine fx_start 1 rfl rfl (Nat.le_of_ble_eq_true rfl) ?_ rfl
  intro p e s m below meth c ls S hr hlocks hin hG hl
  have hl : lv_has ls 1 [(0, .ref t)] := hl
  have lt_h0 := hG.1.lt h0
  refine lv_aload_n S.1 S.2.1 dX5_init_0 rfl (lv_at hl 0 rfl) ?_
  refine gx_objInit S hG (by decide +kernel) (by decide +kernel) (by decide +kernel) hl.1 dX5_init_1 (Nat.le_of_ble_eq_true rfl) (Nat.le_of_ble_eq_true rfl) ?_
  refine lv_aload_n S.1 S.2.1 dX5_init_4 rfl (lv_at hl 0 rfl) ?_
  refine lv_bipush (v := 20) S.1 S.2.1 dX5_init_5 (by decide) ?_
  refine gx_newa (atype := .char) (ty := .char) (N' := 20) (a0 := (20, .inl (fun _ => 0))) S hG (by decide +kernel) rfl 1 rfl (fun _ => rfl) (by decide) (by decide) (by decide) (by decide) (by decide) dX5_init_7 (fun H hG => ?_)
  refine W.widen (k := 1) (n := 20) (by decide) (by decide) ?_
  refine gx_putF (C := RX5) (T := TX5) (N := 7) (ty := (.array .char)) (v := .ref n) (fs' := [.ref n, .null, .null, .null, .null, .null, .int 0]) S hG (fu_at (by omega) h0) i_X5_init_X5 rfl 0 (by decide) tyX5 tyX5_ok nmX5 (by decide +kernel) rfl hin rfl (by decide +kernel) rfl rfl (Nat.le_of_ble_eq_true rfl) rfl dX5_init_9 (fun H locs hG => ?_)
  refine lv_aload_n S.1 S.2.1 dX5_init_12 rfl (lv_at hl 0 rfl) ?_
  refine lv_bipush (v := 20) S.1 S.2.1 dX5_init_13 (by decide) ?_
  refine gx_newa (atype := .int) (ty := .int) (N' := 20) (a0 := (20, .inl (fun _ => 0))) S hG (by decide +kernel) rfl 0 rfl (fun _ => rfl) (by decide) (by decide) (by decide) (by decide) (by decide) dX5_init_15 (fun H hG => ?_)
  refine W.widen (k := 2) (n := 40) (by decide) (by decide) ?_
  refine gx_putF (C := RX5) (T := TX5) (N := 7) (ty := (.array .int)) (v := .ref (n + 1)) (fs' := [.ref n, .ref (n + 1), .null, .null, .null, .null, .int 0]) S hG (fu_at (by omega) fu_s) i_X5_init_X5 rfl 1 (by decide) tyX5 tyX5_ok nmX5 (by decide +kernel) rfl hin rfl (by decide +kernel) rfl rfl (Nat.le_of_ble_eq_true rfl) rfl dX5_init_17 (fun H locs hG => ?_)
  refine lv_aload_n S.1 S.2.1 dX5_init_20 rfl (lv_at hl 0 rfl) ?_
  refine lv_bipush (v := 20) S.1 S.2.1 dX5_init_21 (by decide) ?_
  refine gx_newa (atype := .int) (ty := .int) (N' := 20) (a0 := (20, .inl (fun _ => 0))) S hG (by decide +kernel) rfl 0 rfl (fun _ => rfl) (by decide) (by decide) (by decide) (by decide) (by decide) dX5_init_23 (fun H hG => ?_)
  refine W.widen (k := 3) (n := 60) (by decide) (by decide) ?_
  refine gx_putF (C := RX5) (T := TX5) (N := 7) (ty := (.array .int)) (v := .ref (n + 2)) (fs' := [.ref n, .ref (n + 1), .ref (n + 2), .null, .null, .null, .int 0]) S hG (fu_at (by omega) fu_s) i_X5_init_X5 rfl 2 (by decide) tyX5 tyX5_ok nmX5 (by decide +kernel) rfl hin rfl (by decide +kernel) rfl rfl (Nat.le_of_ble_eq_true rfl) rfl dX5_init_25 (fun H locs hG => ?_)
  refine lv_aload_n S.1 S.2.1 dX5_init_28 rfl (lv_at hl 0 rfl) ?_
  refine lv_bipush (v := 20) S.1 S.2.1 dX5_init_29 (by decide) ?_
  refine gx_newa (atype := .int) (ty := .int) (N' := 20) (a0 := (20, .inl (fun _ => 0))) S hG (by decide +kernel) rfl 0 rfl (fun _ => rfl) (by decide) (by decide) (by decide) (by decide) (by decide) dX5_init_31 (fun H hG => ?_)
  refine W.widen (k := 4) (n := 80) (by decide) (by decide) ?_
  refine gx_putF (C := RX5) (T := TX5) (N := 7) (ty := (.array .int)) (v := .ref (n + 3)) (fs' := [.ref n, .ref (n + 1), .ref (n + 2), .ref (n + 3), .null, .null, .int 0]) S hG (fu_at (by omega) fu_s) i_X5_init_X5 rfl 3 (by decide) tyX5 tyX5_ok nmX5 (by decide +kernel) rfl hin rfl (by decide +kernel) rfl rfl (Nat.le_of_ble_eq_true rfl) rfl dX5_init_33 (fun H locs hG => ?_)
  refine lv_aload_n S.1 S.2.1 dX5_init_36 rfl (lv_at hl 0 rfl) ?_
  refine lv_bipush (v := 20) S.1 S.2.1 dX5_init_37 (by decide) ?_
  refine gx_newa (atype := .int) (ty := .int) (N' := 20) (a0 := (20, .inl (fun _ => 0))) S hG (by decide +kernel) rfl 0 rfl (fun _ => rfl) (by decide) (by decide) (by decide) (by decide) (by decide) dX5_init_39 (fun H hG => ?_)
  refine W.widen (k := 5) (n := 100) (by decide) (by decide) ?_
  refine gx_putF (C := RX5) (T := TX5) (N := 7) (ty := (.array .int)) (v := .ref (n + 4)) (fs' := [.ref n, .ref (n + 1), .ref (n + 2), .ref (n + 3), .ref (n + 4), .null, .int 0]) S hG (fu_at (by omega) fu_s) i_X5_init_X5 rfl 4 (by decide) tyX5 tyX5_ok nmX5 (by decide +kernel) rfl hin rfl (by decide +kernel) rfl rfl (Nat.le_of_ble_eq_true rfl) rfl dX5_init_41 (fun H locs hG => ?_)
  refine lv_aload_n S.1 S.2.1 dX5_init_44 rfl (lv_at hl 0 rfl) ?_
  refine lv_bipush (v := 20) S.1 S.2.1 dX5_init_45 (by decide) ?_
  refine gx_newa (atype := .int) (ty := .int) (N' := 20) (a0 := (20, .inl (fun _ => 0))) S hG (by decide +kernel) rfl 0 rfl (fun _ => rfl) (by decide) (by decide) (by decide) (by decide) (by decide) dX5_init_47 (fun H hG => ?_)
  refine W.widen (k := 6) (n := 120) (by decide) (by decide) ?_
  refine gx_putF (C := RX5) (T := TX5) (N := 7) (ty := (.array .int)) (v := .ref (n + 5)) (fs' := [.ref n, .ref (n + 1), .ref (n + 2), .ref (n + 3), .ref (n + 4), .ref (n + 5), .int 0]) S hG (fu_at (by omega) fu_s) i_X5_init_X5 rfl 5 (by decide) tyX5 tyX5_ok nmX5 (by decide +kernel) rfl hin rfl (by decide +kernel) rfl rfl (Nat.le_of_ble_eq_true rfl) rfl dX5_init_49 (fun H locs hG => ?_)
  refine lv_aload_n S.1 S.2.1 dX5_init_52 rfl (lv_at hl 0 rfl) ?_
  refine gx_get (C := RX5) (T := TX5) (N := 7) S hG fu_s i_X5_init_X5 rfl 0 (by decide) (by decide +kernel) rfl dX5_init_53 ?_
  refine lv_iconst (v := 0) S.1 S.2.1 dX5_init_56 (by decide) ?_
  refine lv_bipush (v := 97) S.1 S.2.1 dX5_init_57 (by decide) ?_
  refine gx_cast (f' := (upd (fun _ => 0) 0 97)) S hG 1 (fu_at (by omega) (fu_at (by omega) (fu_at (by omega) (fu_at (by omega) (fu_at (by omega) (fu_at (by omega) (fu_at (by omega) (fu_at (by omega) (fu_at (by omega) (fu_at (by omega) (fu_at (by omega) fu_s))))))))))) rfl (fin_l (by decide)) dX5_init_59 (rfl) (fun H locs hG => ?_)
  refine lv_aload_n S.1 S.2.1 dX5_init_60 rfl (lv_at hl 0 rfl) ?_
  refine gx_get (C := RX5) (T := TX5) (N := 7) S hG (fu_at (by omega) fu_s) i_X5_init_X5 rfl 3 (by decide) (by decide +kernel) rfl dX5_init_61 ?_
  refine lv_iconst (v := 0) S.1 S.2.1 dX5_init_64 (by decide) ?_
  refine lv_iconst (v := (-1)) S.1 S.2.1 dX5_init_65 (by decide) ?_
  refine gx_iast (f' := (upd (fun _ => 0) 0 (-1))) S hG 0 (fu_at (by omega) (fu_at (by omega) (fu_at (by omega) (fu_at (by omega) (fu_at (by omega) (fu_at (by omega) fu_s)))))) rfl (fin_l (by decide)) dX5_init_66 (rfl) (fun H locs hG => ?_)
  refine lv_aload_n S.1 S.2.1 dX5_init_67 rfl (lv_at hl 0 rfl) ?_
  refine lv_iconst (v := 1) S.1 S.2.1 dX5_init_68 (by decide) ?_
  refine gx_put (C := RX5) (T := TX5) (N := 7) (ty := .int) (v := .int 1) (fs' := [.ref n, .ref (n + 1), .ref (n + 2), .ref (n + 3), .ref (n + 4), .ref (n + 5), .int 1]) S hG (fu_at (by omega) (fu_at (by omega) fu_s)) i_X5_init_X5 rfl 6 (by decide) tyX5 tyX5_ok nmX5 (by decide +kernel) rfl (by decide +kernel) rfl rfl (Nat.le_of_ble_eq_true rfl) rfl dX5_init_69 (fun H locs hG => ?_)
  have hG : fG N0 D vwCl (fty cI cC cL cD cII cTr cTm cIt) fen s (fblk (fu F t (.inr (7, [.ref n, .ref (n + 1), .ref (n + 2), .ref (n + 3), .ref (n + 4), .ref (n + 5), .int 1]))) n [.inl (cC, 20, .inl (upd (fun _ => 0) 0 97)), .inl (cI, 20, .inl (fun _ => 0)), .inl (cI, 20, .inl (fun _ => 0)), .inl (cI, 20, .inl (upd (fun _ => 0) 0 (-1))), .inl (cI, 20, .inl (fun _ => 0)), .inl (cI, 20, .inl (fun _ => 0))]) (n + 6) H locs := hG.weak (fun a e h => by
    rcases fblk_cases 6 rfl h with ⟨k, rfl, hlt, hk⟩ | ⟨hout, h⟩
    · rcases (show k = 0 ∨ k = 1 ∨ k = 2 ∨ k = 3 ∨ k = 4 ∨ k = 5 by omega) with rfl | rfl | rfl | rfl | rfl | rfl
      · cases (show some (.inl (cC, 20, .inl (upd (fun _ => 0) 0 97))) = some e from hk); exact (fu_at (by omega) (fu_at (by omega) fu_s))
      · cases (show some (.inl (cI, 20, .inl (fun _ => 0))) = some e from hk); exact (fu_at (by omega) (fu_at (by omega) (fu_at (by omega) (fu_at (by omega) (fu_at (by omega) (fu_at (by omega) (fu_at (by omega) (fu_at (by omega) (fu_at (by omega) (fu_at (by omega) (fu_at (by omega) (fu_at (by omega) fu_s))))))))))))
      · cases (show some (.inl (cI, 20, .inl (fun _ => 0))) = some e from hk); exact (fu_at (by omega) (fu_at (by omega) (fu_at (by omega) (fu_at (by omega) (fu_at (by omega) (fu_at (by omega) (fu_at (by omega) (fu_at (by omega) (fu_at (by omega) (fu_at (by omega) fu_s))))))))))
      · cases (show some (.inl (cI, 20, .inl (upd (fun _ => 0) 0 (-1)))) = some e from hk); exact (fu_at (by omega) fu_s)
      · cases (show some (.inl (cI, 20, .inl (fun _ => 0))) = some e from hk); exact (fu_at (by omega) (fu_at (by omega) (fu_at (by omega) (fu_at (by omega) (fu_at (by omega) (fu_at (by omega) fu_s))))))
      · cases (show some (.inl (cI, 20, .inl (fun _ => 0))) = some e from hk); exact (fu_at (by omega) (fu_at (by omega) (fu_at (by omega) (fu_at (by omega) fu_s))))
    · rcases fu_cases h with ⟨rfl, he⟩ | ⟨hne0, h⟩
      · cases he; exact fu_s
      · exact (fu_at (by omega) (fu_at (by omega) (fu_at (by omega) (fu_at (by omega) (fu_at (by omega) (fu_at (by omega) (fu_at (by omega) (fu_at (by omega) (fu_at (by omega) (fu_at (by omega) (fu_at (by omega) (fu_at (by omega) (fu_at (by omega) (fu_at (by omega) (fu_at (by omega) h))))))))))))))))
  exact fx_vret S hr hlocks () hG trivial dX5_init_72
theorem i_X5_widthOf_X5 : ∀ w ∈ u_ws RX5 TX5 7, w ∈ wsX5_widthOf := by decide +kernel
theorem c_X5_widthOf0 {t n : Nat} (h0 : F t = some (.inr (7, [.ref (t + 1), .ref (t + 2), .ref (t + 3), .ref (t + 4), .ref (t + 5), .ref (t + 6), .int 1]))) : Met l yX5_widthOf wsX5_widthOf ({ frames := 0, cells := 0, slots := 0, locals := 0 }) (va_Pc [.ref t, .int 0] (fP N0 D vwCl (fty cI cC cL cD cII cTr cTm cIt) fen F n)) (fQi N0 D vwCl (fty cI cC cL cD cII cTr cTm cIt) (fun (r : Int32) (_ : Unit) => r = 1) (fun _ => F) (fun _ => n)) 0 0 (fA N0) := by
  refine fx_start 3 rfl rfl (Nat.le_of_ble_eq_true rfl) ?_ rfl
  intro p e s m below meth c ls S hr hlocks hin hG hl
  have hl : lv_has ls 3 [(0, .ref t), (1, .int 0)] := hl
  have lt_h0 := hG.1.lt h0
  refine lv_iload_n S.1 S.2.1 dX5_widthOf_0 rfl (lv_at hl 1 rfl) ?_
  refine lv_iconst (v := 1) S.1 S.2.1 dX5_widthOf_1 (by decide) ?_
  refine lv_iadd S.1 S.2.1 dX5_widthOf_2 ?_
  refine fx_topi (y := 1) (by decide) ?_
  refine lv_istore_n (lv' := [(2, .int 1), (0, .ref t), (1, .int 0)]) S.1 S.2.1 dX5_widthOf_3 rfl hl (by decide) rfl (fun ls hl => ?_)
  refine lv_iload_n S.1 S.2.1 dX5_widthOf_4 rfl (lv_at hl 0 rfl) ?_
  refine lv_aload_n S.1 S.2.1 dX5_widthOf_5 rfl (lv_at hl 1 rfl) ?_
  refine gx_get (C := RX5) (T := TX5) (N := 7) S hG h0 i_X5_widthOf_X5 rfl 6 (by decide) (by decide +kernel) rfl dX5_widthOf_6 ?_
  refine lv_icmp_ge (tgt := 28) S.1 S.2.1 dX5_widthOf_9 (by decide) (fun _ => ?_) (fun c => absurd (by decide) c)
  refine lv_iload_n S.1 S.2.1 dX5_widthOf_28 rfl (lv_at hl 0 rfl) ?_
  refine lv_iload_n S.1 S.2.1 dX5_widthOf_29 rfl (lv_at hl 2 rfl) ?_
  refine lv_isub S.1 S.2.1 dX5_widthOf_30 ?_
  refine fx_topi (y := 1) (by decide) ?_
  exact fx_iret S hr hlocks () hG (rfl) dX5_widthOf_31
