/-! ===== TEXTS: the JDK's rows over the map ===== -/
section FJ
variable {p : Program} {l : Launch} {e : Env} {R : Room} {s : State} {m : MethodId} {args : Array Value} {below : List Frame} {meth : Method} {c : Code} {H : Heap} {locs : List Loc} {cells slots : Nat} {Q : State → Prop}
variable {cc : ByteArray} {pc nL : Nat} {ls : Array Slot} {rest st0 As : List Value} {D : va_G} {cl : List vw_C} {a b : Nat} {tys : List (ClassId × FieldType)} {Ts : List Cond} {own : String} {N0 n : Nat} {F : Nat → Option va_E}
variable {en : fEn} {y : MethodName} {bytes : ByteArray} {maxL mc ms k index ci : Nat} {ret : Option FieldType} {ws : List Cond} {rm : Room} {r : vw_C} {fs : List Value} {U : Type} {F' : U → Nat → Option va_E} {n' : U → Nat} {H0 : Heap} {ql : Nat → Nat}
theorem fx_bast (S : CallFix p m c cc nL s args Ts own) (hK : va_K D cl tys s) (hF : fW N0 D cl F n H) (hSv : va_S (fA N0) H0 H locs) (t0 : Nat) {cA : ClassId} {N : Nat} {f : Nat → Int32} (he : F a = some (.inl (cA, N, .inl f))) (ht : tys[t0]? = some (cA, .byte)) {i : Int32} {x : Int32} (hin : vp_in i N) (hdg : decode cc pc = .ok (.bastore, 1))
    (kk : ∀ (H1 : Heap) (locs1 : List Loc), fW N0 D cl (fu F a (.inl (cA, N, .inl (upd f i.toNatClampNeg (vp_nar .byte x))))) n H1 → va_S (fA N0) H0 H1 locs1 → W p l e R s m args below meth c H1 locs1 cells slots Q (F0 m (pc + 1) ls rest)) : W p l e R s m args below meth c H locs cells slots Q (F0 m pc ls (.int x :: .int i :: .ref a :: rest)) := by
  refine W.bast S.1 S.2.1 (hF.one he 0 _ rfl) ((hK.2 t0 _ ht).1 N (fun j => .int (f j))) (fun q => by cases q) (by show ¬ (i < 0 ∨ (arrV _ _ _).slots.size ≤ _); rw [arrV_size]; exact hin) rfl rfl hdg fun H1 e z oq => ?_
  refine kk H1 _ (hF.upd he ?_ z oq) (hF.put he hSv z oq)
  show H1[a]? = some (vp_cell _ _)
  rw [e]
  rw [vp_cell_i, vp_cell_i, arrV_store]
  congr 2
  funext q
  by_cases hq : q = i.toNatClampNeg
  · subst hq
    simp [updV, upd, vp_nar]
    try rfl
  · simp [updV, upd, vp_nar, hq]
theorem gx_bast (S : CallFix p m c cc nL s args Ts own) (hG : fG N0 D cl tys en s F n H locs) (t0 : Nat) {cA : ClassId} {N : Nat} {f : Nat → Int32} (he : F a = some (.inl (cA, N, .inl f))) (ht : tys[t0]? = some (cA, .byte)) {i : Int32} {x : Int32} (hin : vp_in i N) (hdg : decode cc pc = .ok (.bastore, 1)) {f' : Nat → Int32} (hf : upd f i.toNatClampNeg (vp_nar .byte x) = f') (kk : ∀ (H1 : Heap) (locs1 : List Loc), fG N0 D cl tys en s (fu F a (.inl (cA, N, .inl f'))) n H1 locs1 → W p l e R s m args below meth c H1 locs1 cells slots Q (F0 m (pc + 1) ls rest)) : W p l e R s m args below meth c H locs cells slots Q (F0 m pc ls (.int x :: .int i :: .ref a :: rest)) :=
  fx_bast S hG.2.2.1 hG.1 hG.2.1 t0 he ht hin hdg (fun H1 l1 h1 h2 => kk H1 l1 (by subst hf; exact hG.next h1 h2))
theorem gx_getCS (S : CallFix p m c cc nL s args Ts own) (hG : fG N0 D cl tys (fen ql) s F n H locs) (hlink : Cond.fieldLink own index "java/lang/String" "COMPACT_STRINGS" "Z" ∈ Ts) (hdg : decode cc pc = .ok (.getstatic index, 3)) (kk : W p l e R s m args below meth c H locs cells slots Q (F0 m (pc + 3) ls (.int 1 :: rest))) : W p l e R s m args below meth c H locs cells slots Q (F0 m pc ls rest) :=
  va_gets S.1 S.2.1 (And.left hG.ext) hG.2.1 S.2.2.2.1 (S.2.2.2.2 _ hlink) (fun _ h => h) hdg kk
theorem gx_getOF {o nm d : String} {q : Nat} {v : Value} (S : CallFix p m c cc nL s args Ts own) (hG : fG N0 D cl tys en s F n H locs) (hE : va_OF o nm d v q (fA N0) s s.heap) (hlink : Cond.fieldLink own index o nm d ∈ Ts) (hdg : decode cc pc = .ok (.getfield index, 3)) (kk : W p l e R s m args below meth c H locs cells slots Q (F0 m (pc + 3) ls (v :: rest))) : W p l e R s m args below meth c H locs cells slots Q (F0 m pc ls (.ref q :: rest)) :=
  vk_getf S.1 S.2.1 hE hG.2.1 S.2.2.2.1 (S.2.2.2.2 _ hlink) (fun _ h => h) hdg kk
theorem gx_tlen {ty : FieldType} {t N : Nat} {f : Nat → Value} {v : Int32} (S : CallFix p m c cc nL s args Ts own) (hG : fG N0 D cl tys en s F n H locs) (hT : va_T ty t N f (fA N0) s s.heap) (hv : Int32.ofNat N = v) (hdg : decode cc pc = .ok (.arraylength, 1)) (kk : W p l e R s m args below meth c H locs cells slots Q (F0 m (pc + 1) ls (.int v :: rest))) : W p l e R s m args below meth c H locs cells slots Q (F0 m pc ls (.ref t :: rest)) :=
  va_tlen S.1 S.2.1 hT hG.2.1 hv hdg kk
theorem fG.old (hG : fG N0 D cl tys (fen ql) s F n H locs) : ∃ v : Nat, va_O "java/lang/String" (ql 24) (fA N0) s s.heap ∧ va_OF "java/lang/String" "coder" "B" (.int 0) (ql 24) (fA N0) s s.heap ∧ va_OF "java/lang/String" "value" "[B" (.ref v) (ql 24) (fA N0) s s.heap ∧ va_T .byte v 0 (fun _ => .int 0) (fA N0) s s.heap := And.right hG.ext
theorem fG.preO (hG : fG N0 D cl tys (fen ql) s F n H locs) : PreV s H "java/lang/String" (ql 24) (va_Pc (.ref (ql 24) :: As) (fP N0 D cl tys (fen ql) F n)) As := by
  obtain ⟨v, h1, -⟩ := hG.old
  obtain ⟨cell, g1, g2, g3, -⟩ := h1.kept hG.2.1.2.1
  exact ⟨fP_blind, ⟨cell, g1, g2, g3⟩, fun U hU hW => ⟨rfl, hG.pre hU hW⟩⟩
theorem fx_cUi {owner : String} {x : MethodName} {post : Int32 → U → Prop} (S : CallFix p m c cc nL s args Ts own) (hG : fG N0 D cl tys en s F n H locs) (hM : Met l y ws rm (va_Pc (.ref b :: As) (fP N0 D cl tys en F n)) (fQi N0 D cl tys post F' n') mc ms (fA N0)) (he : F b = some (.inr (ci, fs))) (hc : cl[ci]? = some r) (cw : va_CU R s args own r.1 owner index x y bytes maxL ret ws rm mc ms k) (hn : As.length = k) (hls : ls.size = nL) (hst : st0 = As.reverse ++ .ref b :: rest) (hW : (rest.map fun v => v.category).sum ≤ 8) (hdg : decode cc pc = .ok (.invokevirtual index, 3)) (hf : cells + mc ≤ R.cells ∧ slots + ms ≤ R.slots)
    (kk : ∀ (rv : Int32) (u : U) (H1 : Heap) (locs1 : List Loc), post rv u → fG N0 D cl tys en s (F' u) (n' u) H1 locs1 → W p l e R s m args below meth c H1 locs1 (cells + mc) (slots + ms) Q (F0 m (pc + 3) ls (.int rv :: rest))) : W p l e R s m args below meth c H locs cells slots Q (F0 m pc ls st0) :=
  va_calli (va_runU (As := As) (rest := rest) S hM cw (hG.preV he hc) rfl hn hls hst (lv_room hW) hdg hf) hG.2.1 (fun q _ h => h) (fun q h => h) (fun rv u t H1 locs1 ht hvm hw hB hz1 hk1 hS => kk rv u H1 locs1 hw (hG.next (by rw [← ht]; exact hB.1) hS))
theorem fx_cUv {owner : String} {x : MethodName} {post : U → Prop} (S : CallFix p m c cc nL s args Ts own) (hG : fG N0 D cl tys en s F n H locs) (hM : Met l y ws rm (va_Pc (.ref b :: As) (fP N0 D cl tys en F n)) (fQv N0 D cl tys post F' n') mc ms (fA N0)) (he : F b = some (.inr (ci, fs))) (hc : cl[ci]? = some r) (cw : va_CU R s args own r.1 owner index x y bytes maxL ret ws rm mc ms k) (hn : As.length = k) (hls : ls.size = nL) (hst : st0 = As.reverse ++ .ref b :: rest) (hW : (rest.map fun v => v.category).sum ≤ 8) (hdg : decode cc pc = .ok (.invokevirtual index, 3)) (hf : cells + mc ≤ R.cells ∧ slots + ms ≤ R.slots)
    (kk : ∀ (u : U) (H1 : Heap) (locs1 : List Loc), post u → fG N0 D cl tys en s (F' u) (n' u) H1 locs1 → W p l e R s m args below meth c H1 locs1 (cells + mc) (slots + ms) Q (F0 m (pc + 3) ls (rest))) : W p l e R s m args below meth c H locs cells slots Q (F0 m pc ls st0) :=
  va_callv (va_runU (As := As) (rest := rest) S hM cw (hG.preV he hc) rfl hn hls hst (lv_room hW) hdg hf) hG.2.1 (fun q _ h => h) (fun q h => h) (fun u t H1 locs1 ht hvm hw hB hz1 hk1 hS => kk u H1 locs1 hw (hG.next (by rw [← ht]; exact hB.1) hS))
theorem fx_cUr {owner : String} {x : MethodName} {post : Nat → U → Prop} (S : CallFix p m c cc nL s args Ts own) (hG : fG N0 D cl tys en s F n H locs) (hM : Met l y ws rm (va_Pc (.ref b :: As) (fP N0 D cl tys en F n)) (fQr N0 D cl tys post F' n') mc ms (fA N0)) (he : F b = some (.inr (ci, fs))) (hc : cl[ci]? = some r) (cw : va_CU R s args own r.1 owner index x y bytes maxL ret ws rm mc ms k) (hn : As.length = k) (hls : ls.size = nL) (hst : st0 = As.reverse ++ .ref b :: rest) (hW : (rest.map fun v => v.category).sum ≤ 8) (hdg : decode cc pc = .ok (.invokevirtual index, 3)) (hf : cells + mc ≤ R.cells ∧ slots + ms ≤ R.slots)
    (kk : ∀ (ra : Nat) (u : U) (H1 : Heap) (locs1 : List Loc), post ra u → fG N0 D cl tys en s (F' u) (n' u) H1 locs1 → W p l e R s m args below meth c H1 locs1 (cells + mc) (slots + ms) Q (F0 m (pc + 3) ls (.ref ra :: rest))) : W p l e R s m args below meth c H locs cells slots Q (F0 m pc ls st0) :=
  va_callr (va_runU (As := As) (rest := rest) S hM cw (hG.preV he hc) rfl hn hls hst (lv_room hW) hdg hf) hG.2.1 (fun q _ h => h) (fun q h => h) (fun u ra t H1 locs1 ht hvm hw hB hz1 hk1 hS => kk ra u H1 locs1 hB.1 (hG.next (by rw [← ht]; exact hB.2.1) hS))
theorem fx_cSUi {post : Int32 → U → Prop} (S : CallFix p m c cc nL s args Ts own) (hG : fG N0 D cl tys en s F n H locs) (hM : Met l y ws rm (va_Pc (.ref b :: As) (fP N0 D cl tys en F n)) (fQi N0 D cl tys post F' n') mc ms (fA N0)) (he : F b = some (.inr (ci, fs))) (hc : cl[ci]? = some r) (cw : va_CS R s args own index y bytes maxL ret ws rm mc ms k) (hn : As.length = k) (hls : ls.size = nL) (hst : st0 = As.reverse ++ .ref b :: rest) (hW : (rest.map fun v => v.category).sum ≤ 8) (hdg : decode cc pc = .ok (.invokespecial index, 3)) (hf : cells + mc ≤ R.cells ∧ slots + ms ≤ R.slots)
    (kk : ∀ (rv : Int32) (u : U) (H1 : Heap) (locs1 : List Loc), post rv u → fG N0 D cl tys en s (F' u) (n' u) H1 locs1 → W p l e R s m args below meth c H1 locs1 (cells + mc) (slots + ms) Q (F0 m (pc + 3) ls (.int rv :: rest))) : W p l e R s m args below meth c H locs cells slots Q (F0 m pc ls st0) :=
  va_calli (va_runSU (hG.2.2.1.1 ci _ hc).2 (As := As) (rest := rest) S hM cw (hG.preV he hc) rfl hn hls hst (lv_room hW) hdg hf) hG.2.1 (fun q _ h => h) (fun q h => h) (fun rv u t H1 locs1 ht hvm hw hB hz1 hk1 hS => kk rv u H1 locs1 hw (hG.next (by rw [← ht]; exact hB.1) hS))
theorem fx_cSUv {post : U → Prop} (S : CallFix p m c cc nL s args Ts own) (hG : fG N0 D cl tys en s F n H locs) (hM : Met l y ws rm (va_Pc (.ref b :: As) (fP N0 D cl tys en F n)) (fQv N0 D cl tys post F' n') mc ms (fA N0)) (he : F b = some (.inr (ci, fs))) (hc : cl[ci]? = some r) (cw : va_CS R s args own index y bytes maxL ret ws rm mc ms k) (hn : As.length = k) (hls : ls.size = nL) (hst : st0 = As.reverse ++ .ref b :: rest) (hW : (rest.map fun v => v.category).sum ≤ 8) (hdg : decode cc pc = .ok (.invokespecial index, 3)) (hf : cells + mc ≤ R.cells ∧ slots + ms ≤ R.slots)
    (kk : ∀ (u : U) (H1 : Heap) (locs1 : List Loc), post u → fG N0 D cl tys en s (F' u) (n' u) H1 locs1 → W p l e R s m args below meth c H1 locs1 (cells + mc) (slots + ms) Q (F0 m (pc + 3) ls (rest))) : W p l e R s m args below meth c H locs cells slots Q (F0 m pc ls st0) :=
  va_callv (va_runSU (hG.2.2.1.1 ci _ hc).2 (As := As) (rest := rest) S hM cw (hG.preV he hc) rfl hn hls hst (lv_room hW) hdg hf) hG.2.1 (fun q _ h => h) (fun q h => h) (fun u t H1 locs1 ht hvm hw hB hz1 hk1 hS => kk u H1 locs1 hw (hG.next (by rw [← ht]; exact hB.1) hS))
theorem fx_cSUr {post : Nat → U → Prop} (S : CallFix p m c cc nL s args Ts own) (hG : fG N0 D cl tys en s F n H locs) (hM : Met l y ws rm (va_Pc (.ref b :: As) (fP N0 D cl tys en F n)) (fQr N0 D cl tys post F' n') mc ms (fA N0)) (he : F b = some (.inr (ci, fs))) (hc : cl[ci]? = some r) (cw : va_CS R s args own index y bytes maxL ret ws rm mc ms k) (hn : As.length = k) (hls : ls.size = nL) (hst : st0 = As.reverse ++ .ref b :: rest) (hW : (rest.map fun v => v.category).sum ≤ 8) (hdg : decode cc pc = .ok (.invokespecial index, 3)) (hf : cells + mc ≤ R.cells ∧ slots + ms ≤ R.slots)
    (kk : ∀ (ra : Nat) (u : U) (H1 : Heap) (locs1 : List Loc), post ra u → fG N0 D cl tys en s (F' u) (n' u) H1 locs1 → W p l e R s m args below meth c H1 locs1 (cells + mc) (slots + ms) Q (F0 m (pc + 3) ls (.ref ra :: rest))) : W p l e R s m args below meth c H locs cells slots Q (F0 m pc ls st0) :=
  va_callr (va_runSU (hG.2.2.1.1 ci _ hc).2 (As := As) (rest := rest) S hM cw (hG.preV he hc) rfl hn hls hst (lv_room hW) hdg hf) hG.2.1 (fun q _ h => h) (fun q h => h) (fun u ra t H1 locs1 ht hvm hw hB hz1 hk1 hS => kk ra u H1 locs1 hB.1 (hG.next (by rw [← ht]; exact hB.2.1) hS))
theorem fx_cOi {post : Int32 → U → Prop} (S : CallFix p m c cc nL s args Ts own) (hG : fG N0 D cl tys (fen ql) s F n H locs) (hM : Met l y ws rm (va_Pc (.ref (ql 24) :: As) (fP N0 D cl tys (fen ql) F n)) (fQi N0 D cl tys post F' n') mc ms (fA N0))  (cw : CallW R s args own "java/lang/String" index y bytes maxL ret ws rm mc ms k) (hn : As.length = k) (hls : ls.size = nL) (hst : st0 = As.reverse ++ .ref (ql 24) :: rest) (hW : (rest.map fun v => v.category).sum ≤ 8) (hdg : decode cc pc = .ok (.invokevirtual index, 3)) (hf : cells + mc ≤ R.cells ∧ slots + ms ≤ R.slots)
    (kk : ∀ (rv : Int32) (u : U) (H1 : Heap) (locs1 : List Loc), post rv u → fG N0 D cl tys (fen ql) s (F' u) (n' u) H1 locs1 → W p l e R s m args below meth c H1 locs1 (cells + mc) (slots + ms) Q (F0 m (pc + 3) ls (.int rv :: rest))) : W p l e R s m args below meth c H locs cells slots Q (F0 m pc ls st0) :=
  va_calli (va_runV (As := As) (rest := rest) S hM cw hG.preO rfl hn hls hst (lv_room hW) hdg hf) hG.2.1 (fun q _ h => h) (fun q h => h) (fun rv u t H1 locs1 ht hvm hw hB hz1 hk1 hS => kk rv u H1 locs1 hw (hG.next (by rw [← ht]; exact hB.1) hS))
end FJ
theorem ffitB0 : ∀ i : Nat, fits .byte (.int ((fun _ => 0 : Nat → Int32) i)) = true := fun _ => rfl
theorem ffitBU {f : Nat → Int32} {k : Nat} {x : Int32} (h : ∀ i, fits .byte (.int (f i)) = true) (hx : fits .byte (.int x) = true) : ∀ i, fits .byte (.int (upd f k x i)) = true := fun i => by
  unfold upd
  split
  · exact hx
  · exact h i
theorem dJ0_coder_7d493_0 : decode cJ0_coder_7d493 0 = .ok (.getstatic 38, 3) := by decide +kernel
theorem dJ0_coder_7d493_3 : decode cJ0_coder_7d493 3 = .ok (.ifCond .eq 10, 3) := by decide +kernel
theorem dJ0_coder_7d493_6 : decode cJ0_coder_7d493 6 = .ok (.aload_n 0, 1) := by decide +kernel
theorem dJ0_coder_7d493_7 : decode cJ0_coder_7d493 7 = .ok (.getfield 15, 3) := by decide +kernel
theorem dJ0_coder_7d493_10 : decode cJ0_coder_7d493 10 = .ok (.goto 4, 3) := by decide +kernel
theorem dJ0_coder_7d493_14 : decode cJ0_coder_7d493 14 = .ok (.ireturn, 1) := by decide +kernel
theorem dJ0_length_8abf5_0 : decode cJ0_length_8abf5 0 = .ok (.aload_n 0, 1) := by decide +kernel
theorem dJ0_length_8abf5_1 : decode cJ0_length_8abf5 1 = .ok (.getfield 9, 3) := by decide +kernel
theorem dJ0_length_8abf5_4 : decode cJ0_length_8abf5 4 = .ok (.arraylength, 1) := by decide +kernel
theorem dJ0_length_8abf5_5 : decode cJ0_length_8abf5 5 = .ok (.aload_n 0, 1) := by decide +kernel
set_option maxRecDepth 20000 in
theorem ggJ0_length_8abf5_J0_coder_7d493 : GoodIn wsJ0_length_8abf5 wsJ0_coder_7d493 := goodIn_r _ [6, 7, 8, 9, 10, 11, 12] (by decide +kernel) (by decide +kernel)
set_option maxRecDepth 20000 in
theorem gJ0_length_8abf5_J0_coder_7d493 : GoodIn wsJ0_length_8abf5 (wsV RJ0 335 RJ0 yJ0_coder_7d493 wsJ0_coder_7d493) := goodIn_app (goodIn_of _ (by decide +kernel)) ggJ0_length_8abf5_J0_coder_7d493
theorem dJ0_length_8abf5_6 : decode cJ0_length_8abf5 6 = .ok (.invokevirtual 335, 3) := by decide +kernel
theorem dJ0_length_8abf5_9 : decode cJ0_length_8abf5 9 = .ok (.ishr, 1) := by decide +kernel
theorem dJ0_length_8abf5_10 : decode cJ0_length_8abf5 10 = .ok (.ireturn, 1) := by decide +kernel
variable {l : Launch} {N0 : Nat} {D : va_G} {cI cC cL cD cII cTr cTm cIt cB : ClassId} {F : Nat → Option va_E} {ql : Nat → Nat}
theorem o_coder {n : Nat} : Met l yJ0_coder_7d493 wsJ0_coder_7d493 ({ frames := 0, cells := 0, slots := 0, locals := 0 }) (va_Pc [.ref (ql 24)] (fP N0 D vwCl (fty cI cC cL cD cII cTr cTm cIt cB) (fen ql) F n)) (fQi N0 D vwCl (fty cI cC cL cD cII cTr cTm cIt cB) (fun (r : Int32) (_ : Unit) => r = 0) (fun _ => F) (fun _ => n)) 0 0 (fA N0) := by
  refine fx_start 1 rfl rfl (Nat.le_of_ble_eq_true rfl) ?_ rfl
  intro p e s m below meth c ls S hr hlocks hin hG hl
  have hl : lv_has ls 1 [(0, .ref (ql 24))] := hl
  obtain ⟨v, ho1, ho2, ho3, ho4⟩ := hG.old
  refine gx_getCS S hG (by decide +kernel) dJ0_coder_7d493_0 ?_
  refine lv_if_eq (tgt := 13) S.1 S.2.1 dJ0_coder_7d493_3 (by decide) (fun c => absurd c (by decide)) (fun _ => ?_)
  refine lv_aload_n S.1 S.2.1 dJ0_coder_7d493_6 rfl (lv_at hl 0 rfl) ?_
  refine gx_getOF S hG ho2 (by decide +kernel) dJ0_coder_7d493_7 ?_
  refine lv_goto (tgt := 14) S.1 S.2.1 dJ0_coder_7d493_10 (by decide) ?_
  exact fx_zret S hr rfl hlocks () hG rfl dJ0_coder_7d493_14
theorem o_length {n : Nat} : Met l yJ0_length_8abf5 wsJ0_length_8abf5 ({ frames := 1, cells := 0, slots := 0, locals := 20 }) (va_Pc [.ref (ql 24)] (fP N0 D vwCl (fty cI cC cL cD cII cTr cTm cIt cB) (fen ql) F n)) (fQi N0 D vwCl (fty cI cC cL cD cII cTr cTm cIt cB) (fun (r : Int32) (_ : Unit) => r = 0) (fun _ => F) (fun _ => n)) 0 0 (fA N0) := by
  refine fx_start 1 rfl rfl (Nat.le_of_ble_eq_true rfl) ?_ rfl
  intro p e s m below meth c ls S hr hlocks hin hG hl
  have hl : lv_has ls 1 [(0, .ref (ql 24))] := hl
  obtain ⟨v, ho1, ho2, ho3, ho4⟩ := hG.old
  refine lv_aload_n S.1 S.2.1 dJ0_length_8abf5_0 rfl (lv_at hl 0 rfl) ?_
  refine gx_getOF S hG ho3 (by decide +kernel) dJ0_length_8abf5_1 ?_
  refine gx_tlen (v := 0) S hG ho4 rfl dJ0_length_8abf5_4 ?_
  refine lv_aload_n S.1 S.2.1 dJ0_length_8abf5_5 rfl (lv_at hl 0 rfl) ?_
  refine fx_cOi (As := []) (rest := [.int 0]) S hG o_coder (cwV 0 S.2.2.2.2 gJ0_length_8abf5_J0_coder_7d493 rfl rfl rfl (by decide +kernel) ⟨Nat.le_of_ble_eq_true rfl, Nat.le_of_ble_eq_true rfl⟩) rfl hl.1 rfl (Nat.le_of_ble_eq_true rfl) dJ0_length_8abf5_6 ⟨Nat.le_of_ble_eq_true rfl, Nat.le_of_ble_eq_true rfl⟩ (fun rv_o _ H locs hp hG => ?_)
  subst rv_o
  refine lv_ishr S.1 S.2.1 dJ0_length_8abf5_9 ?_
  refine fx_topi (y := 0) (by decide) ?_
  exact fx_iret S hr hlocks () hG rfl dJ0_length_8abf5_10
