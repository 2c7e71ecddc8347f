/-! ===== THE WORLD AS A MAP: F says what stands at each known address; n is the heap's size; all that is known stands from N0 on ===== -/
section FX0
variable {N0 : Nat} {D : va_G} {cl : List vw_C} {F : Nat → Option va_E} {n a : Nat} {e : va_E} {H H1 : Heap}
/-- F, but e at a -/
def fu (F : Nat → Option va_E) (a : Nat) (e : va_E) : Nat → Option va_E := fun b => if b = a then some e else F b
theorem fu_s : fu F a e a = some e := if_pos rfl
theorem fu_n {b : Nat} (h : b ≠ a) : fu F a e b = F b := if_neg h
theorem fu_at {b : Nat} {x : Option va_E} (h : b ≠ a) (k : F b = x) : fu F a e b = x := (fu_n h).trans k
def fW (N0 : Nat) (D : va_G) (cl : List vw_C) (F : Nat → Option va_E) (n : Nat) (H : Heap) : Prop := H.size = n ∧ N0 ≤ n ∧ ∀ (a : Nat) (e : va_E), F a = some e → N0 ≤ a ∧ va_at D cl (a, e) H
theorem fW.one (h : fW N0 D cl F n H) (he : F a = some e) : va_P D cl [(a, e)] H := fun k q hq => by
  have hz : k < 1 := (List.getElem?_eq_some_iff.mp hq).1
  rw [show k = 0 by omega] at hq
  cases hq
  exact (h.2.2 a e he).2
theorem fW.lt (h : fW N0 D cl F n H) (he : F a = some e) : a < n := by
  have := va_at.lt (h.2.2 a e he).2
  rw [h.1] at this
  exact this
theorem fW.ge (h : fW N0 D cl F n H) (he : F a = some e) : N0 ≤ a := (h.2.2 a e he).1
theorem fW.upd {e0 : va_E} (h : fW N0 D cl F n H) (he : F a = some e0) (hat : va_at D cl (a, e) H1) (z : H1.size = H.size) (oq : ∀ q : Nat, q ≠ a → H1[q]? = H[q]?) : fW N0 D cl (fu F a e) n H1 := by
  refine ⟨z.trans h.1, h.2.1, fun b x hb => ?_⟩
  by_cases hba : b = a
  · subst hba
    rw [fu_s] at hb
    cases hb
    exact ⟨(h.2.2 b _ he).1, hat⟩
  · rw [fu_n hba] at hb
    exact ⟨(h.2.2 b _ hb).1, va_at.kept (h.2.2 b _ hb).2 (oq b hba)⟩
theorem fW.push (h : fW N0 D cl F n H) (hat : va_at D cl (n, e) H1) (z : H1.size = n + 1) (oq : ∀ q : Nat, q < n → H1[q]? = H[q]?) : fW N0 D cl (fu F n e) (n + 1) H1 := by
  refine ⟨z, Nat.le_succ_of_le h.2.1, fun b x hb => ?_⟩
  by_cases hba : b = n
  · subst hba
    rw [fu_s] at hb
    cases hb
    exact ⟨h.2.1, hat⟩
  · rw [fu_n hba] at hb
    exact ⟨(h.2.2 b _ hb).1, va_at.kept (h.2.2 b _ hb).2 (oq b (h.lt hb))⟩
/-- less known -/
theorem fW.weak {F' : Nat → Option va_E} (h : fW N0 D cl F n H) (hk : ∀ a e, F' a = some e → F a = some e) : fW N0 D cl F' n H := ⟨h.1, h.2.1, fun a e he => h.2.2 a e (hk a e he)⟩
/-- the heap has grown, the old cells are as they were -/
theorem fW.kept {n' : Nat} (h : fW N0 D cl F n H) (z : H1.size = n') (hn : n ≤ n') (oq : ∀ q : Nat, q < H.size → H1[q]? = H[q]?) : fW N0 D cl F n' H1 := ⟨z, Nat.le_trans h.2.1 hn, fun a e he => ⟨(h.2.2 a e he).1, va_at.kept (h.2.2 a e he).2 (oq a (by rw [h.1]; exact h.lt he))⟩⟩
/-- what may be written: all from N0 on -/
def fA (N0 : Nat) : Nat → Prop := fun q => N0 ≤ q
theorem fW.put {H0 : Heap} {locs : List Loc} {k : Nat} {e0 : va_E} (h : fW N0 D cl F n H) (he : F a = some e0) (hS : va_S (fA N0) H0 H locs) (z : H1.size = H.size) (oq : ∀ q : Nat, q ≠ a → H1[q]? = H[q]?) : va_S (fA N0) H0 H1 (locs ++ [⟨a, k⟩]) := hS.put z oq (h.2.2 a _ he).1
theorem fS_push {H0 : Heap} {locs : List Loc} (h : H.size = n) (hS : va_S (fA N0) H0 H locs) (z : H1.size = n + 1) (oq : ∀ q : Nat, q < n → H1[q]? = H[q]?) : va_S (fA N0) H0 H1 locs := ⟨Nat.le_trans hS.1 (by omega), fun x h1 h2 => (oq x (by have := hS.1; omega)).trans (hS.2.1 x h1 h2), hS.2.2⟩
end FX0
section FX1
variable {p : Program} {l : Launch} {e : Env} {R : Room} {s : State} {m : MethodId} {args : Array Value} {below : List Frame} {meth : Method} {c : Code} {H : Heap} {locs : List Loc} {cells slots : Nat} {Q : State → Prop}
variable {cc : ByteArray} {pc nL : Nat} {ls : Array Slot} {rest : List Value} {D : va_G} {cl : List vw_C} {a : Nat} {tys : List (ClassId × FieldType)} {H0 : Heap} {Ts : List Cond} {own : String} {N0 n : Nat} {F : Nat → Option va_E}
/-- a constant known otherwise -/
theorem fx_topi {x y : Int32} (h : x = y) (k : W p l e R s m args below meth c H locs cells slots Q (F0 m pc ls (.int y :: rest))) : W p l e R s m args below meth c H locs cells slots Q (F0 m pc ls (.int x :: rest)) := h ▸ k
theorem fx_topv {x y : Value} (h : x = y) (k : W p l e R s m args below meth c H locs cells slots Q (F0 m pc ls (y :: rest))) : W p l e R s m args below meth c H locs cells slots Q (F0 m pc ls (x :: rest)) := h ▸ k

theorem fx_get (S : CallFix p m c cc nL s args Ts own) (hK : va_K D cl tys s) (hF : fW N0 D cl F n H) {C : String} {T : u_T} {N ci index : Nat} {fs : List Value} (he : F a = some (.inr (ci, fs))) (hin : ∀ w ∈ u_ws C T N, w ∈ Ts) (hc : cl[ci]? = some (C, T, N)) (k : Nat) (hk : k < N) (hlink : Cond.fieldLink own index (T k).1 (T k).2.1 (T k).2.2.1 ∈ Ts) {v : Value} (hv : fs[k]? = some v) (hdg : decode cc pc = .ok (.getfield index, 3))
    (kk : W p l e R s m args below meth c H locs cells slots Q (F0 m (pc + 3) ls (v :: rest))) : W p l e R s m args below meth c H locs cells slots Q (F0 m pc ls (.ref a :: rest)) :=
  va_get S.1 S.2.1 S.2.2.2.2 hin S.2.2.2.1 hK (hF.one he) 0 rfl hc k hk (S.2.2.2.2 _ hlink) (fun _ h => h) hv hdg kk
theorem fx_put (S : CallFix p m c cc nL s args Ts own) (hK : va_K D cl tys s) (hF : fW N0 D cl F n H) (hSv : va_S (fA N0) H0 H locs) {C : String} {T : u_T} {N ci index : Nat} {fs : List Value} (he : F a = some (.inr (ci, fs))) (hin : ∀ w ∈ u_ws C T N, w ∈ Ts) (ty0 : Nat → FieldType) (hty : ∀ k, k < N → parseFieldDescriptor (T k).2.2.1 = some (ty0 k)) (hnm : ∀ a, a < N → ∀ b, b < N → a ≠ b → (T a).2.1 ≠ (T b).2.1) (hc : cl[ci]? = some (C, T, N)) (k : Nat) (hk : k < N) (hlink : Cond.fieldLink own index (T k).1 (T k).2.1 (T k).2.2.1 ∈ Ts) (hfin : (T k).2.2.2 = false) {ty : FieldType} {v : Value} (hd : parseFieldDescriptor (T k).2.2.1 = some ty) (hn : narrow ty v = v) (hfit : fits ty v = true) (hl : k < fs.length) (hdg : decode cc pc = .ok (.putfield index, 3))
    (kk : ∀ (H1 : Heap) (locs1 : List Loc), fW N0 D cl (fu F a (.inr (ci, fs.set k v))) n H1 → va_S (fA N0) H0 H1 locs1 → W p l e R s m args below meth c H1 locs1 cells slots Q (F0 m (pc + 3) ls rest)) : W p l e R s m args below meth c H locs cells slots Q (F0 m pc ls (v :: .ref a :: rest)) := by
  obtain ⟨hexec, hb, hml, hown, hts⟩ := S
  have hap := va_apart (own := own) hts hin ty0 hty hnm hK hc
  obtain ⟨hge, hat⟩ := hF.2.2 a _ he
  obtain ⟨r, h1, cell, q1, q2, q3, q4⟩ := hat
  have hr : r = (C, T, N) := Option.some.inj (h1.symm.trans hc)
  subst hr
  obtain ⟨hS, hfc, kC, hkC, hkind⟩ := hK.1 ci _ hc
  obtain ⟨cf, kf, fi, f, hi, hsl⟩ := hS k hk
  have hlay := hts _ (hin _ (u_in_lay hk))
  unfold u_lay at hlay
  rw [if_neg (by rw [hfin]; decide)] at hlay
  have hst := (u_facts hfc hkC (u_lays hts hin hk) hi).1
  have h6 := u_store hfc hkC hkind hlay hi hd hn hfit
  refine W.putK hexec hb (f := f) ⟨hown, hts _ hlink, ⟨_, _, _, hi⟩, hst⟩ (by rw [q2]; exact h6) q1 q3 (by rw [hsl]; exact k2_hasslot (q4 k hk)) rfl rfl hdg fun H' e1 e2 e3 => ?_
  rw [hsl] at e1 ⊢
  exact kk H' _ (hF.upd he ⟨_, hc, t_OB.to (V := updV (vp_V fs) k v) ⟨_, e1, q2, q3, t_set q4 hap hk v⟩ (fun j _ => vp_updV_set hl v j)⟩ e2 e3) (hF.put he hSv e2 e3)
theorem fx_putF (S : CallFix p m c cc nL s args Ts own) (hK : va_K D cl tys s) (hF : fW N0 D cl F n H) (hSv : va_S (fA N0) H0 H locs) {C : String} {T : u_T} {N ci index : Nat} {fs : List Value} (he : F a = some (.inr (ci, fs))) (hin : ∀ w ∈ u_ws C T N, w ∈ Ts) (ty0 : Nat → FieldType) (hty : ∀ k, k < N → parseFieldDescriptor (T k).2.2.1 = some (ty0 k)) (hnm : ∀ a, a < N → ∀ b, b < N → a ≠ b → (T a).2.1 ≠ (T b).2.1) (hc : cl[ci]? = some (C, T, N)) (k : Nat) (hk : k < N) (hlink : Cond.fieldLink own index (T k).1 (T k).2.1 (T k).2.2.1 ∈ Ts) (hfin : (T k).2.2.2 = true) (hin2 : meth.name = "<init>") (hdecl : (T k).1 = own) {ty : FieldType} {v : Value} (hd : parseFieldDescriptor (T k).2.2.1 = some ty) (hn : narrow ty v = v) (hfit : fits ty v = true) (hl : k < fs.length) (hdg : decode cc pc = .ok (.putfield index, 3))
    (kk : ∀ (H1 : Heap) (locs1 : List Loc), fW N0 D cl (fu F a (.inr (ci, fs.set k v))) n H1 → va_S (fA N0) H0 H1 locs1 → W p l e R s m args below meth c H1 locs1 cells slots Q (F0 m (pc + 3) ls rest)) : W p l e R s m args below meth c H locs cells slots Q (F0 m pc ls (v :: .ref a :: rest)) := by
  obtain ⟨hexec, hb, hml, hown, hts⟩ := S
  have hap := va_apart (own := own) hts hin ty0 hty hnm hK hc
  obtain ⟨hge, hat⟩ := hF.2.2 a _ he
  obtain ⟨r, h1, cell, q1, q2, q3, q4⟩ := hat
  have hr : r = (C, T, N) := Option.some.inj (h1.symm.trans hc)
  subst hr
  obtain ⟨hS, hfc, kC, hkC, hkind⟩ := hK.1 ci _ hc
  obtain ⟨cf, kf, fi, f, hi, hsl⟩ := hS k hk
  have hlay := hts _ (hin _ (u_in_lay hk))
  unfold u_lay at hlay
  rw [if_pos hfin] at hlay
  have hst := (u_facts hfc hkC (u_lays hts hin hk) hi).1
  have hcf : m.cls = cf := by
    obtain ⟨_, _, c', _, _, _, -, -, hf', -, -, -, hown2, -⟩ := Cond.laysFinal_spec hlay
    have e1 : c' = cf := by have := hi.symm.trans hf'; simp at this; exact this.1.symm
    rw [hdecl] at hown2
    rw [← e1]; exact Option.some.inj (hown.symm.trans hown2)
  have h6 := u_fits hfc hkC hkind (Or.inr hlay) hi hd hn hfit
  refine W.putFinK hexec hb hown (hts _ hlink) hi hst hcf hin2 (by rw [q2]; exact h6) q1 q3 (by rw [hsl]; exact k2_hasslot (q4 k hk)) rfl rfl hdg fun H' e1 e2 e3 => ?_
  rw [hsl] at e1 ⊢
  exact kk H' _ (hF.upd he ⟨_, hc, t_OB.to (V := updV (vp_V fs) k v) ⟨_, e1, q2, q3, t_set q4 hap hk v⟩ (fun j _ => vp_updV_set hl v j)⟩ e2 e3) (hF.put he hSv e2 e3)
theorem fx_putN (S : CallFix p m c cc nL s args Ts own) (hK : va_K D cl tys s) (hF : fW N0 D cl F n H) (hSv : va_S (fA N0) H0 H locs) {C host : String} {T : u_T} {N ci index : Nat} {fs : List Value} (he : F a = some (.inr (ci, fs))) (hin : ∀ w ∈ u_ws C T N, w ∈ Ts) (ty0 : Nat → FieldType) (hty : ∀ k, k < N → parseFieldDescriptor (T k).2.2.1 = some (ty0 k)) (hnm : ∀ a, a < N → ∀ b, b < N → a ≠ b → (T a).2.1 ≠ (T b).2.1) (hc : cl[ci]? = some (C, T, N)) (k : Nat) (hk : k < N) (hlink : (Cond.fieldLinkNest own index (T k).1 (T k).2.1 (T k).2.2.1 host).before args s = true) (hfin : (T k).2.2.2 = false) {ty : FieldType} {v : Value} (hd : parseFieldDescriptor (T k).2.2.1 = some ty) (hn : narrow ty v = v) (hfit : fits ty v = true) (hl : k < fs.length) (hdg : decode cc pc = .ok (.putfield index, 3))
    (kk : ∀ (H1 : Heap) (locs1 : List Loc), fW N0 D cl (fu F a (.inr (ci, fs.set k v))) n H1 → va_S (fA N0) H0 H1 locs1 → W p l e R s m args below meth c H1 locs1 cells slots Q (F0 m (pc + 3) ls rest)) : W p l e R s m args below meth c H locs cells slots Q (F0 m pc ls (v :: .ref a :: rest)) := by
  obtain ⟨hexec, hb, hml, hown, hts⟩ := S
  have hap := va_apart (own := own) hts hin ty0 hty hnm hK hc
  obtain ⟨hge, hat⟩ := hF.2.2 a _ he
  obtain ⟨r, h1, cell, q1, q2, q3, q4⟩ := hat
  have hr : r = (C, T, N) := Option.some.inj (h1.symm.trans hc)
  subst hr
  obtain ⟨hS, hfc, kC, hkC, hkind⟩ := hK.1 ci _ hc
  obtain ⟨cf, kf, fi, f, hi, hsl⟩ := hS k hk
  have hlay := hts _ (hin _ (u_in_lay hk))
  unfold u_lay at hlay
  rw [if_neg (by rw [hfin]; decide)] at hlay
  have hst := (u_facts hfc hkC (u_lays hts hin hk) hi).1
  have h6 := u_store hfc hkC hkind hlay hi hd hn hfit
  refine va_WputK hexec hb (f := f) hown hlink hi hst (by rw [q2]; exact h6) q1 q3 (by rw [hsl]; exact k2_hasslot (q4 k hk)) rfl rfl hdg fun H' e1 e2 e3 => ?_
  rw [hsl] at e1 ⊢
  exact kk H' _ (hF.upd he ⟨_, hc, t_OB.to (V := updV (vp_V fs) k v) ⟨_, e1, q2, q3, t_set q4 hap hk v⟩ (fun j _ => vp_updV_set hl v j)⟩ e2 e3) (hF.put he hSv e2 e3)
theorem fx_new (S : CallFix p m c cc nL s args Ts own) (hK : va_K D cl tys s) (hF : fW N0 D cl F n H) (hSv : va_S (fA N0) H0 H locs) {C : String} {T : u_T} {N ci index : Nat} (hin : ∀ w ∈ u_ws C T N, w ∈ Ts) (ty : Nat → FieldType) (hty : ∀ k, k < N → parseFieldDescriptor (T k).2.2.1 = some (ty k)) (hc : cl[ci]? = some (C, T, N)) (hcl : Cond.classLink own index C ∈ Ts) (hinst : Cond.instantiable C N ∈ Ts) (hini : Cond.initialized C ∈ Ts) {fs : List Value} (hfs : ∀ j, j < N → defaultValue (ty j) = vp_V fs j) (hcells : cells + 1 ≤ R.cells) (hslots : slots + N ≤ R.slots) (hdg : decode cc pc = .ok (.new index, 3))
    (kk : ∀ (H1 : Heap), fW N0 D cl (fu F n (.inr (ci, fs))) (n + 1) H1 → va_S (fA N0) H0 H1 locs → W p l e R s m args below meth c H1 locs (cells + 1) (slots + N) Q (F0 m (pc + 3) ls (.ref n :: rest))) : W p l e R s m args below meth c H locs cells slots Q (F0 m pc ls rest) := by
  obtain ⟨hexec, hb, hml, hown, hts⟩ := S
  have hKn := hK.1 ci _ hc
  refine W.newcK hexec hb hown (hts _ hcl) (hts _ hinst) (hts _ hini) rfl hdg hcells hslots hKn.2.1 hF.1 fun H1 kC hkC e1 z1 o1 => ?_
  exact kk H1 (hF.push ⟨_, hc, (u_born ty hts hin hKn hkC e1 hty).to hfs⟩ z1 o1) (fS_push hF.1 hSv z1 o1)
theorem fx_newa (S : CallFix p m c cc nL s args Ts own) (hK : va_K D cl tys s) (hF : fW N0 D cl F n H) (hSv : va_S (fA N0) H0 H locs) {atype : ArrayType} (harr : Cond.arrayClass (newarray.typeOf atype) ∈ Ts) {ty : FieldType} (hty : newarray.typeOf atype = ty) (t0 : Nat) {cA : ClassId} (ht : tys[t0]? = some (cA, ty)) {i : Int32} {N' : Nat} {a0 : vp_A} (ha : ∀ cA : ClassId, vp_cell cA a0 = arrV cA N' (fun _ => defaultValue ty)) (hn : ¬ i < 0) (hN : i.toNatClampNeg = N') (hbytes : N' * componentBytes ty ≤ 536870912) (hcells : cells + 1 ≤ R.cells) (hslots : slots + N' ≤ R.slots) (hdg : decode cc pc = .ok (.newarray atype, 2))
    (kk : ∀ (H1 : Heap), fW N0 D cl (fu F n (.inl (cA, a0))) (n + 1) H1 → va_S (fA N0) H0 H1 locs → W p l e R s m args below meth c H1 locs (cells + 1) (slots + N') Q (F0 m (pc + 2) ls (.ref n :: rest))) : W p l e R s m args below meth c H locs cells slots Q (F0 m pc ls (.int i :: rest)) := by
  obtain ⟨hexec, hb, hml, hown, hts⟩ := S
  subst hty
  refine va_newaK hexec hb (hts _ harr) rfl hdg rfl hn hN hbytes hcells hslots hF.1 fun H1 cB e1 z1 o1 hAr hNm => ?_
  have hcc : cB = cA := by
    have h2 := (hK.2 t0 _ ht).2
    have h3 : s.vm.findClass ("[" ++ (newarray.typeOf atype).toString) = some cA := by cases atype <;> exact h2
    exact Option.some.inj (hNm.symm.trans h3)
  subst hcc
  exact kk H1 (hF.push (show H1[n]? = some (vp_cell _ _) by rw [ha]; exact e1) z1 o1) (fS_push hF.1 hSv z1 o1)
theorem fx_newq (S : CallFix p m c cc nL s args Ts own) (hK : va_K D cl tys s) (hF : fW N0 D cl F n H) (hSv : va_S (fA N0) H0 H locs) {C : String} {index : Nat} (hclink : Cond.classLink own index C ∈ Ts) (hover : va_AO C s) (t0 : Nat) {cA : ClassId} (ht : tys[t0]? = some (cA, .object C)) {i : Int32} {N' : Nat} (hn : ¬ i < 0) (hN : i.toNatClampNeg = N') (hbytes : N' * 4 ≤ 536870912) (hcells : cells + 1 ≤ R.cells) (hslots : slots + N' ≤ R.slots) (hdg : decode cc pc = .ok (.anewarray index, 3))
    (kk : ∀ (H1 : Heap), fW N0 D cl (fu F n (.inl (cA, N', .inr (.inr (.inr (.inr (fun _ => none))))))) (n + 1) H1 → va_S (fA N0) H0 H1 locs → W p l e R s m args below meth c H1 locs (cells + 1) (slots + N') Q (F0 m (pc + 3) ls (.ref n :: rest))) : W p l e R s m args below meth c H locs cells slots Q (F0 m pc ls (.int i :: rest)) := by
  obtain ⟨hexec, hb, hml, hown, hts⟩ := S
  subst hN
  refine W.anew hexec hb hown (hts _ hclink) (va_AO.use hover) rfl hdg rfl hn hbytes hcells hslots fun cB kA comp f1 f2 f3 f4 => ?_
  generalize hH1 : H.push ({ cls := cB, slots := Array.replicate i.toNatClampNeg .null, vm := .none } : Cell) = H1
  have hz := hF.1
  have z1 : H1.size = n + 1 := by rw [← hH1, Array.size_push, hz]
  have e1 : H1[n]? = some (arrV cB i.toNatClampNeg (fun _ => .null)) := by rw [← hH1, ← hz, Array.getElem?_push_size, ← arrV_new]
  have o1 : ∀ q : Nat, q < n → H1[q]? = H[q]? := fun q hq => by rw [← hH1, Array.getElem?_push, if_neg (by omega)]
  have hcc : cB = cA := by
    obtain ⟨kA2, comp2, g1, g2, g3, g4⟩ := (hK.2 t0 _ ht).2
    exact Option.some.inj (f1.symm.trans g4)
  subst hcc
  have hr : (F0 m (pc + 3) ls (.ref n :: rest)) = { (F0 m pc ls (.int i :: rest)) with pc := pc + 3, stack := .ref H.size :: rest } := by rw [hz]
  refine W.eq hr.symm ?_
  exact kk H1 (hF.push (show H1[n]? = some (vp_cell _ _) by rw [vp_cell_q]; exact e1) z1 o1) (fS_push hz hSv z1 o1)
theorem fx_iald (S : CallFix p m c cc nL s args Ts own) (hK : va_K D cl tys s) (hF : fW N0 D cl F n H) (t0 : Nat) {cA : ClassId} {N : Nat} {f : Nat → Int32} (he : F a = some (.inl (cA, N, .inl f))) (ht : tys[t0]? = some (cA, .int)) {i : Int32} (hin : vp_in i N) (hdg : decode cc pc = .ok (.iaload, 1))
    (kk : W p l e R s m args below meth c H locs cells slots Q (F0 m (pc + 1) ls (.int (f i.toNatClampNeg) :: rest))) : W p l e R s m args below meth c H locs cells slots Q (F0 m pc ls (.int i :: .ref a :: rest)) :=
  va_iald S.1 S.2.1 hK (hF.one he) 0 t0 rfl ht hin hdg kk
theorem fx_cald (S : CallFix p m c cc nL s args Ts own) (hK : va_K D cl tys s) (hF : fW N0 D cl F n H) (t0 : Nat) {cA : ClassId} {N : Nat} {f : Nat → Int32} (he : F a = some (.inl (cA, N, .inl f))) (ht : tys[t0]? = some (cA, .char)) {i : Int32} (hin : vp_in i N) (hdg : decode cc pc = .ok (.caload, 1))
    (kk : W p l e R s m args below meth c H locs cells slots Q (F0 m (pc + 1) ls (.int (f i.toNatClampNeg) :: rest))) : W p l e R s m args below meth c H locs cells slots Q (F0 m pc ls (.int i :: .ref a :: rest)) :=
  va_cald S.1 S.2.1 hK (hF.one he) 0 t0 rfl ht hin hdg kk
theorem fx_lald (S : CallFix p m c cc nL s args Ts own) (hK : va_K D cl tys s) (hF : fW N0 D cl F n H) (t0 : Nat) {cA : ClassId} {N : Nat} {f : Nat → Int64} (he : F a = some (.inl (cA, N, .inr (.inl f)))) (ht : tys[t0]? = some (cA, .long)) {i : Int32} (hin : vp_in i N) (hdg : decode cc pc = .ok (.laload, 1))
    (kk : W p l e R s m args below meth c H locs cells slots Q (F0 m (pc + 1) ls (.long (f i.toNatClampNeg) :: rest))) : W p l e R s m args below meth c H locs cells slots Q (F0 m pc ls (.int i :: .ref a :: rest)) :=
  va_lald S.1 S.2.1 hK (hF.one he) 0 t0 rfl ht hin hdg kk
theorem fx_dald (S : CallFix p m c cc nL s args Ts own) (hK : va_K D cl tys s) (hF : fW N0 D cl F n H) (t0 : Nat) {cA : ClassId} {N : Nat} {f : Nat → UInt64} (he : F a = some (.inl (cA, N, .inr (.inr (.inr (.inl f)))))) (ht : tys[t0]? = some (cA, .double)) {i : Int32} (hin : vp_in i N) (hdg : decode cc pc = .ok (.daload, 1))
    (kk : W p l e R s m args below meth c H locs cells slots Q (F0 m (pc + 1) ls (.double (f i.toNatClampNeg) :: rest))) : W p l e R s m args below meth c H locs cells slots Q (F0 m pc ls (.int i :: .ref a :: rest)) :=
  va_dald S.1 S.2.1 hK (hF.one he) 0 t0 rfl ht hin hdg kk
theorem fx_aldq (S : CallFix p m c cc nL s args Ts own) (hK : va_K D cl tys s) (hF : fW N0 D cl F n H) (t0 : Nat) {cA : ClassId} {ty : FieldType} (hr : ty.isReference = true) {N : Nat} {f : Nat → Option Nat} (he : F a = some (.inl (cA, N, .inr (.inr (.inr (.inr f)))))) (ht : tys[t0]? = some (cA, ty)) {i : Int32} (hin : vp_in i N) (hdg : decode cc pc = .ok (.aaload, 1))
    (kk : W p l e R s m args below meth c H locs cells slots Q (F0 m (pc + 1) ls (va_rf (f i.toNatClampNeg) :: rest))) : W p l e R s m args below meth c H locs cells slots Q (F0 m pc ls (.int i :: .ref a :: rest)) := by
  have hlt : i.toNatClampNeg < N := Nat.not_le.mp fun q => hin (Or.inr q)
  exact W.aald (v := va_rf (f i.toNatClampNeg)) (ty := ty) S.1 S.2.1 (hF.one he 0 _ rfl) ((hK.2 t0 _ ht).1 N (fun j => va_rf (f j))) hr (fun q => by cases q) (by show ¬ (i < 0 ∨ (arrV _ _ _).slots.size ≤ _); rw [arrV_size]; exact hin) (by show (arrV _ _ _).slots[_]? = _; rw [arrV_read _ _ hlt]) rfl rfl hdg kk
theorem fx_alen (S : CallFix p m c cc nL s args Ts own) (hK : va_K D cl tys s) (hF : fW N0 D cl F n H) (t0 : Nat) {cA : ClassId} {x : vp_A} (he : F a = some (.inl (cA, x))) {ty : FieldType} (ht : tys[t0]? = some (cA, ty)) {v : Int32} (hv : Int32.ofNat x.1 = v) (hdg : decode cc pc = .ok (.arraylength, 1))
    (kk : W p l e R s m args below meth c H locs cells slots Q (F0 m (pc + 1) ls (.int v :: rest))) : W p l e R s m args below meth c H locs cells slots Q (F0 m pc ls (.ref a :: rest)) :=
  va_alen S.1 S.2.1 hK (hF.one he) 0 t0 rfl ht hv hdg kk
theorem fx_iast (S : CallFix p m c cc nL s args Ts own) (hK : va_K D cl tys s) (hF : fW N0 D cl F n H) (hSv : va_S (fA N0) H0 H locs) (t0 : Nat) {cA : ClassId} {N : Nat} {f : Nat → Int32} (he : F a = some (.inl (cA, N, .inl f))) (ht : tys[t0]? = some (cA, .int)) {i : Int32} {x : Int32} (hin : vp_in i N) (hdg : decode cc pc = .ok (.iastore, 1))
    (kk : ∀ (H1 : Heap) (locs1 : List Loc), fW N0 D cl (fu F a (.inl (cA, N, .inl (upd f i.toNatClampNeg x)))) n H1 → va_S (fA N0) H0 H1 locs1 → W p l e R s m args below meth c H1 locs1 cells slots Q (F0 m (pc + 1) ls rest)) : W p l e R s m args below meth c H locs cells slots Q (F0 m pc ls (.int x :: .int i :: .ref a :: rest)) := by
  refine W.iast S.1 S.2.1 (hF.one he 0 _ rfl) ((hK.2 t0 _ ht).1 N (fun j => .int (f j))) (fun q => by cases q) (by show ¬ (i < 0 ∨ (arrV _ _ _).slots.size ≤ _); rw [arrV_size]; exact hin) rfl rfl hdg fun H1 e z oq => ?_
  refine kk H1 _ (hF.upd he ?_ z oq) (hF.put he hSv z oq)
  show H1[a]? = some (vp_cell _ _)
  rw [e]
  rw [vp_cell_i, vp_cell_i, arrV_store]
  congr 2
  funext q
  by_cases hq : q = i.toNatClampNeg
  · subst hq
    simp [updV, upd]
    try rfl
  · simp [updV, upd, hq]
theorem fx_cast (S : CallFix p m c cc nL s args Ts own) (hK : va_K D cl tys s) (hF : fW N0 D cl F n H) (hSv : va_S (fA N0) H0 H locs) (t0 : Nat) {cA : ClassId} {N : Nat} {f : Nat → Int32} (he : F a = some (.inl (cA, N, .inl f))) (ht : tys[t0]? = some (cA, .char)) {i : Int32} {x : Int32} (hin : vp_in i N) (hdg : decode cc pc = .ok (.castore, 1))
    (kk : ∀ (H1 : Heap) (locs1 : List Loc), fW N0 D cl (fu F a (.inl (cA, N, .inl (upd f i.toNatClampNeg (vp_nar .char x))))) n H1 → va_S (fA N0) H0 H1 locs1 → W p l e R s m args below meth c H1 locs1 cells slots Q (F0 m (pc + 1) ls rest)) : W p l e R s m args below meth c H locs cells slots Q (F0 m pc ls (.int x :: .int i :: .ref a :: rest)) := by
  refine W.cast S.1 S.2.1 (hF.one he 0 _ rfl) ((hK.2 t0 _ ht).1 N (fun j => .int (f j))) (fun q => by cases q) (by show ¬ (i < 0 ∨ (arrV _ _ _).slots.size ≤ _); rw [arrV_size]; exact hin) rfl rfl hdg fun H1 e z oq => ?_
  refine kk H1 _ (hF.upd he ?_ z oq) (hF.put he hSv z oq)
  show H1[a]? = some (vp_cell _ _)
  rw [e]
  rw [vp_cell_i, vp_cell_i, arrV_store]
  congr 2
  funext q
  by_cases hq : q = i.toNatClampNeg
  · subst hq
    simp [updV, upd, vp_nar]
    try rfl
  · simp [updV, upd, vp_nar, hq]
theorem fx_last (S : CallFix p m c cc nL s args Ts own) (hK : va_K D cl tys s) (hF : fW N0 D cl F n H) (hSv : va_S (fA N0) H0 H locs) (t0 : Nat) {cA : ClassId} {N : Nat} {f : Nat → Int64} (he : F a = some (.inl (cA, N, .inr (.inl f)))) (ht : tys[t0]? = some (cA, .long)) {i : Int32} {x : Int64} (hin : vp_in i N) (hdg : decode cc pc = .ok (.lastore, 1))
    (kk : ∀ (H1 : Heap) (locs1 : List Loc), fW N0 D cl (fu F a (.inl (cA, N, .inr (.inl (vp_updL f i.toNatClampNeg x))))) n H1 → va_S (fA N0) H0 H1 locs1 → W p l e R s m args below meth c H1 locs1 cells slots Q (F0 m (pc + 1) ls rest)) : W p l e R s m args below meth c H locs cells slots Q (F0 m pc ls (.long x :: .int i :: .ref a :: rest)) := by
  refine W.last S.1 S.2.1 (hF.one he 0 _ rfl) ((hK.2 t0 _ ht).1 N (fun j => .long (f j))) (fun q => by cases q) (by show ¬ (i < 0 ∨ (arrV _ _ _).slots.size ≤ _); rw [arrV_size]; exact hin) rfl rfl hdg fun H1 e z oq => ?_
  refine kk H1 _ (hF.upd he ?_ z oq) (hF.put he hSv z oq)
  show H1[a]? = some (vp_cell _ _)
  rw [e]
  rw [vp_cell_l, vp_cell_l, arrV_store]
  congr 2
  funext q
  by_cases hq : q = i.toNatClampNeg
  · subst hq
    simp [updV, vp_updL]
    try rfl
  · simp [updV, vp_updL, hq]
theorem fx_dast (S : CallFix p m c cc nL s args Ts own) (hK : va_K D cl tys s) (hF : fW N0 D cl F n H) (hSv : va_S (fA N0) H0 H locs) (t0 : Nat) {cA : ClassId} {N : Nat} {f : Nat → UInt64} (he : F a = some (.inl (cA, N, .inr (.inr (.inr (.inl f)))))) (ht : tys[t0]? = some (cA, .double)) {i : Int32} {x : UInt64} (hin : vp_in i N) (hdg : decode cc pc = .ok (.dastore, 1))
    (kk : ∀ (H1 : Heap) (locs1 : List Loc), fW N0 D cl (fu F a (.inl (cA, N, .inr (.inr (.inr (.inl (vf_upd f i.toNatClampNeg x))))))) n H1 → va_S (fA N0) H0 H1 locs1 → W p l e R s m args below meth c H1 locs1 cells slots Q (F0 m (pc + 1) ls rest)) : W p l e R s m args below meth c H locs cells slots Q (F0 m pc ls (.double x :: .int i :: .ref a :: rest)) := by
  refine W.dast S.1 S.2.1 (hF.one he 0 _ rfl) ((hK.2 t0 _ ht).1 N (fun j => .double (f j))) (fun q => by cases q) (by show ¬ (i < 0 ∨ (arrV _ _ _).slots.size ≤ _); rw [arrV_size]; exact hin) rfl rfl hdg fun H1 e z oq => ?_
  refine kk H1 _ (hF.upd he ?_ z oq) (hF.put he hSv z oq)
  show H1[a]? = some (vp_cell _ _)
  rw [e]
  rw [vp_cell_d, vp_cell_d, arrV_store]
  congr 2
  funext q
  by_cases hq : q = i.toNatClampNeg
  · subst hq
    simp [updV, vf_upd]
    try rfl
  · simp [updV, vf_upd, hq]
theorem fx_astq (S : CallFix p m c cc nL s args Ts own) (hK : va_K D cl tys s) (hF : fW N0 D cl F n H) (hSv : va_S (fA N0) H0 H locs) (t0 ci : Nat) {cA : ClassId} {r : vw_C} {N v : Nat} {vs : List Value} {f : Nat → Option Nat} (he : F a = some (.inl (cA, N, .inr (.inr (.inr (.inr f)))))) (ht : tys[t0]? = some (cA, .object r.1)) (hv : F v = some (.inr (ci, vs))) (hc : cl[ci]? = some r) {i : Int32} (hin : vp_in i N) (hdg : decode cc pc = .ok (.aastore, 1))
    (kk : ∀ (H1 : Heap) (locs1 : List Loc), fW N0 D cl (fu F a (.inl (cA, N, .inr (.inr (.inr (.inr (va_up f i.toNatClampNeg (some v)))))))) n H1 → va_S (fA N0) H0 H1 locs1 → W p l e R s m args below meth c H1 locs1 cells slots Q (F0 m (pc + 1) ls rest)) : W p l e R s m args below meth c H locs cells slots Q (F0 m pc ls (.ref v :: .int i :: .ref a :: rest)) := by
  have hlt : i.toNatClampNeg < N := Nat.not_le.mp fun q => hin (Or.inr q)
  have h0 : ¬ i < 0 := fun q => hin (Or.inl q)
  obtain ⟨r', hr', cellV, g1, g2, g3, -⟩ := (hF.2.2 v _ hv).2
  have hcls := (hK.1 ci r hc).2
  obtain ⟨kA, comp, k1, k2, k3, -⟩ := (hK.2 t0 _ ht).2
  have hcomp : comp = D.1 ci := Option.some.inj (k3.symm.trans hcls.1)
  subst hcomp
  obtain ⟨kC, hkC, -⟩ := hcls.2
  refine W.aast S.1 S.2.1 (hF.one he 0 _ rfl) (fun q h => by cases h) (fun h => by cases h) k1 k2 rfl hkC ⟨h0, by show _ < (arrV _ _ _).slots.size; rw [arrV_size]; exact hlt⟩ g1 (fun q h => by rw [g3] at h; cases h) (by rw [g2]; exact hkC) (by rw [g2]; exact va_assign hcls) rfl rfl hdg fun H1 e z oq => ?_
  refine kk H1 _ (hF.upd he ?_ z oq) (hF.put he hSv z oq)
  show H1[a]? = some (vp_cell _ _)
  rw [e]
  rw [vp_cell_q, vp_cell_q, arrV_store]
  congr 2
  funext q
  by_cases hq : q = i.toNatClampNeg
  · subst hq
    simp [updV, va_up, va_rf]
  · simp [updV, va_up, hq]
theorem fx_copyi (S : CallFix p m c cc nL s args Ts own) (hK : va_K D cl tys s) (hF : fW N0 D cl F n H) (hSv : va_S (fA N0) H0 H locs) (hls : ls.size = nL) {index : Nat} (hlink : Cond.methodLink own index arraycopyName ∈ Ts) (hnat : Cond.native arraycopyName ∈ Ts) (hstat : Cond.static arraycopyName ∈ Ts) (hini : Cond.initialized "java/lang/System" ∈ Ts)
    (t0 : Nat) {a0 : Nat} {c0 : ClassId} {n0 n1 : Nat} {f g : Nat → Int32} {ty : FieldType} (ha0 : F a0 = some (.inl (c0, n0, .inl f))) (ha1 : F a = some (.inl (c0, n1, .inl g))) (ht0 : tys[t0]? = some (c0, ty)) (hprim : refKind ty = false)
    {sp dp k : Int32} (h1 : ¬ sp < 0) (h2 : ¬ dp < 0) (h3 : ¬ k < 0) (h4 : sp.toNatClampNeg + k.toNatClampNeg ≤ n0) (h5 : dp.toNatClampNeg + k.toNatClampNeg ≤ n1) (hfit : ∀ i, i < k.toNatClampNeg → fits ty (.int (f (sp.toNatClampNeg + i))) = true)
    (hframes : 1 ≤ R.frames) (hlocals : (rest.map fun v => v.category).sum + (nativeFrameWords "java/lang/System" "arraycopy" 5 + 11) ≤ R.locals) (hdg : decode cc pc = .ok (.invokestatic index, 3))
    (kk : ∀ (H1 : Heap) (locs1 : List Loc), fW N0 D cl (fu F a (.inl (c0, n1, .inl (va_cpy f g sp.toNatClampNeg dp.toNatClampNeg k.toNatClampNeg)))) n H1 → va_S (fA N0) H0 H1 locs1 → W p l e R s m args below meth c H1 locs1 cells slots Q (F0 m (pc + 3) ls rest)) : W p l e R s m args below meth c H locs cells slots Q (F0 m pc ls (.int k :: .int dp :: .ref a :: .int sp :: .ref a0 :: rest)) := by
  obtain ⟨hexec, hb, hml, hown, hts⟩ := S
  have nn : ∀ z : Int32, ¬ z < 0 → z.toInt = (z.toNatClampNeg : Int) := by
    intro z hz
    have hz0 : (0 : Int) ≤ z.toInt := by
      have := Int32.not_lt.mp hz
      simpa using Int32.le_iff_toInt_le.mp this
    show z.toInt = ((z.toInt.toNat : Nat) : Int)
    omega
  intro T hT X
  have hc0 : H[a0]? = some (vp_cell c0 (n0, .inl f)) := (hF.2.2 a0 _ ha0).2
  have hc1 : H[a]? = some (vp_cell c0 (n1, .inl g)) := (hF.2.2 a _ ha1).2
  obtain ⟨-, k0, hk0, cm0, hkk0⟩ := (hK.2 t0 _ ht0).1 n0 (fun j => .int (f j))
  obtain ⟨-, k1, hk1, cm1, hkk1⟩ := (hK.2 t0 _ ht0).1 n1 (fun j => .int (g j))
  obtain ⟨vm', X', step⟩ := X.arraycopy hexec hown (hts _ hlink) (hts _ hnat) (hts _ hstat) (hts _ hini) (src := a0) (dst := a) (cs := vp_cell c0 (n0, .inl f)) (cd := vp_cell c0 (n1, .inl g)) (srcPos := sp) (destPos := dp) (n := k) (by rw [hT]; exact hc0) (by rw [hT]; exact hc1)
    (fun _ h => by cases h) (fun _ h => by cases h) (fun h => by cases h) (fun h => by cases h) hk0 hk1 hkk0 hkk1 (by simp [hprim]) h1 h2 h3
    (by rw [nn sp h1, nn k h3]; show ¬ _ > ((arrV c0 n0 (fun j => .int (f j))).slots.size : Int); rw [arrV_size]; omega)
    (by rw [nn dp h2, nn k h3]; show ¬ _ > ((arrV c0 n1 (fun j => .int (g j))).slots.size : Int); rw [arrV_size]; omega)
    (fun vm₁ _ i hi => by
      have e : (vp_cell c0 (n0, .inl f)).slots.getD (sp.toNatClampNeg + i) .null = .int (f (sp.toNatClampNeg + i)) := by
        show (arrV c0 n0 (fun j => .int (f j))).slots.getD _ _ = _
        rw [Array.getD_eq_getD_getElem?, arrV_read _ _ (by omega)]
        rfl
      refine ⟨?_, ?_⟩
      · rw [e]
        exact hfit i hi
      · rw [e]
        exact trivial)
    (g := F0 m pc ls (.int k :: .int dp :: .ref a :: .int sp :: .ref a0 :: rest)) rfl (by rw [hml]; exact hls) (rest := rest) rfl (by rw [hb]; exact hdg) hframes (by show 2 * 0 + _ + _ ≤ _; omega)
  have e1 : copied (vp_cell c0 (n0, .inl f)) (vp_cell c0 (n1, .inl g)) sp dp k = vp_cell c0 (n1, .inl (va_cpy f g sp.toNatClampNeg dp.toNatClampNeg k.toNatClampNeg)) := va_copied (fun z => .int z) c0 c0 f g h4
  rw [e1] at X' step
  have hl : a < H.size := (Array.getElem?_eq_some_iff.mp hc1).1
  have hheap : ((T.setVm vm').setCell a (vp_cell c0 (n1, .inl (va_cpy f g sp.toNatClampNeg dp.toNatClampNeg k.toNatClampNeg)))).heap = H.setIfInBounds a (vp_cell c0 (n1, .inl (va_cpy f g sp.toNatClampNeg dp.toNatClampNeg k.toNatClampNeg))) := by rw [← hT]; rfl
  have oq : ∀ q : Nat, q ≠ a → (H.setIfInBounds a (vp_cell c0 (n1, .inl (va_cpy f g sp.toNatClampNeg dp.toNatClampNeg k.toNatClampNeg))))[q]? = H[q]? := fun q hq => by simp [Array.getElem?_setIfInBounds, Ne.symm hq]
  obtain ⟨t, a1, b1⟩ := kk _ _ (hF.upd ha1 (show (H.setIfInBounds a _)[a]? = some _ by simp [Array.getElem?_setIfInBounds, hl]) (by simp) oq) ⟨by simp; exact hSv.1, fun q g1 g2 => by
      rw [oq q (fun e => g2 (by rw [e]; exact (hF.2.2 a _ ha1).1))]
      exact hSv.2.1 q g1 g2, fun q hq => by
      rcases List.mem_append.mp hq with h | h
      · exact hSv.2.2 q h
      · obtain ⟨z, -, hz⟩ := List.mem_map.mp h
        rw [← hz]
        exact (hF.2.2 a _ ha1).1⟩ _ hheap X'
  exact ⟨t, step t a1, b1⟩
end FX1
