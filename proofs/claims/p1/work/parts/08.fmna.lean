/-! ===== new int[n][k] over the map ===== -/
/-- F, but e at each of the N addresses from b on -/
def frun (F : Nat → Option va_E) (b N : Nat) (e : va_E) : Nat → Option va_E := fun x => if b ≤ x ∧ x < b + N then some e else F x
theorem frun_in {F : Nat → Option va_E} {b N x : Nat} {e : va_E} (h1 : b ≤ x) (h2 : x < b + N) : frun F b N e x = some e := if_pos ⟨h1, h2⟩
theorem frun_out {F : Nat → Option va_E} {b N x : Nat} {e : va_E} (h : x < b ∨ b + N ≤ x) : frun F b N e x = F x := if_neg (by omega)
theorem frun_at {F : Nat → Option va_E} {b N x : Nat} {e : va_E} {z : Option va_E} (h : x < b ∨ b + N ≤ x) (k : F x = z) : frun F b N e x = z := (frun_out h).trans k
theorem fr_outer (c : ClassId) (N h0 : Nat) : ∀ i : Nat, Jvm.Free.Multi.outerC c N h0 i = arrV c N (fun j => va_rf (if j < i then some (h0 + 1 + j) else none))
  | 0 => by
    show ({ cls := c, slots := Array.replicate N .null, vm := .none } : Cell) = _
    rw [arrV_new]
    refine congrArg (arrV c N) (funext fun j => ?_)
    simp [va_rf]
  | i + 1 => by
    show (Jvm.Free.Multi.outerC c N h0 i).setSlot i (.ref (h0 + 1 + i)) = _
    rw [fr_outer c N h0 i, arrV_store]
    refine congrArg (arrV c N) (funext fun j => ?_)
    by_cases e : j = i
    · subst e
      simp [updV, va_rf]
    · by_cases h : j < i
      · simp [updV, e, h, Nat.lt_succ_of_lt h]
      · simp [updV, e, h, show ¬ j < i + 1 by omega]
/-- F, but the cells L from b on -/
def fblk (F : Nat → Option va_E) (b : Nat) (L : List va_E) : Nat → Option va_E := fun x => if b ≤ x ∧ x < b + L.length then L[x - b]? else F x
theorem fblk_at {F : Nat → Option va_E} {b a : Nat} {L : List va_E} {e : va_E} (k : Nat) (h : a = b + k) (hk : L[k]? = some e) : fblk F b L a = some e := by
  have hl := (List.getElem?_eq_some_iff.mp hk).1
  subst h
  unfold fblk
  rw [if_pos ⟨by omega, by omega⟩, show b + k - b = k by omega]
  exact hk
theorem fblk_sk {F : Nat → Option va_E} {b a : Nat} {L : List va_E} {z : Option va_E} (m : Nat) (hm : L.length = m) (h : a < b ∨ b + m ≤ a) (k : F a = z) : fblk F b L a = z := by
  unfold fblk
  rw [if_neg (by rw [hm]; omega)]
  exact k
theorem fblk_cases {F : Nat → Option va_E} {b a : Nat} {L : List va_E} {e : va_E} (m : Nat) (hm : L.length = m) (h : fblk F b L a = some e) : (∃ k, a = b + k ∧ k < m ∧ L[k]? = some e) ∨ ((a < b ∨ b + m ≤ a) ∧ F a = some e) := by
  subst hm
  unfold fblk at h
  by_cases hc : b ≤ a ∧ a < b + L.length
  · rw [if_pos hc] at h
    exact Or.inl ⟨a - b, by omega, by omega, h⟩
  · rw [if_neg hc] at h
    exact Or.inr ⟨by omega, h⟩
theorem fu_cases {F : Nat → Option va_E} {b a : Nat} {e e0 : va_E} (h : fu F b e0 a = some e) : (a = b ∧ e0 = e) ∨ (a ≠ b ∧ F a = some e) := by
  by_cases hc : a = b
  · subst hc
    rw [fu_s] at h
    exact Or.inl ⟨rfl, Option.some.inj h⟩
  · rw [fu_n hc] at h
    exact Or.inr ⟨hc, h⟩
theorem fG.weak {N0 n : Nat} {D : va_G} {cl : List vw_C} {tys : List (ClassId × FieldType)} {en : fEn} {s : State} {F F' : Nat → Option va_E} {H : Heap} {locs : List Loc} (h : fG N0 D cl tys en s F n H locs) (hk : ∀ a e, F' a = some e → F a = some e) : fG N0 D cl tys en s F' n H locs := ⟨h.1.weak hk, h.2⟩
section FXM
variable {F : Nat → Option va_E} {b x : Nat} {L L2 : List va_E} {e e0 : va_E}
theorem fblk_0 : fu F b e = fblk F b [e] := by
  funext y
  unfold fu fblk
  by_cases h : y = b
  · subst h
    rw [if_pos rfl, if_pos ⟨Nat.le_refl _, by simp⟩, Nat.sub_self]
    rfl
  · rw [if_neg h, if_neg (by simp; omega)]
theorem fblk_push (k : Nat) (hk : L.length = k) : fu (fblk F b L) (b + k) e = fblk F b (L ++ [e]) := by
  funext y
  unfold fu fblk
  subst hk
  by_cases h : y = b + L.length
  · subst h
    rw [if_pos rfl, if_pos ⟨by omega, by simp⟩]
    simp
  · rw [if_neg h]
    by_cases h2 : b ≤ y ∧ y < b + L.length
    · rw [if_pos h2, if_pos ⟨h2.1, by simp; omega⟩, List.getElem?_append_left (by omega)]
    · rw [if_neg h2, if_neg (by simp; omega)]
theorem fblk_set (k : Nat) (hk : k < L.length) : fu (fblk F b L) (b + k) e = fblk F b (L.set k e) := by
  funext y
  unfold fu fblk
  rw [List.length_set]
  by_cases h : y = b + k
  · subst h
    rw [if_pos rfl, if_pos ⟨by omega, by omega⟩, show b + k - b = k by omega, List.getElem?_set_self hk]
  · rw [if_neg h]
    by_cases h2 : b ≤ y ∧ y < b + L.length
    · rw [if_pos h2, if_pos h2, List.getElem?_set_ne (by omega)]
    · rw [if_neg h2, if_neg h2]
theorem fblk_out (hx : x < b) : fu (fblk F b L) x e = fblk (fu F x e) b L := by
  funext y
  by_cases h : y = x
  · subst h
    rw [fu_s, fblk, if_neg (by omega), fu_s]
  · rw [fu_n h, fblk, fblk, fu_n h]
theorem fu_over : fu (fu F x e0) x e = fu F x e := by
  funext y
  unfold fu
  by_cases h : y = x
  · rw [if_pos h, if_pos h]
  · rw [if_neg h, if_neg h, if_neg h]
theorem fblk_app (k : Nat) (hk : L.length = k) : fblk (fblk F b L) (b + k) L2 = fblk F b (L ++ L2) := by
  funext y
  unfold fblk
  subst hk
  rw [List.length_append]
  by_cases h : b + L.length ≤ y ∧ y < b + L.length + L2.length
  · rw [if_pos h, if_pos ⟨by omega, by omega⟩, List.getElem?_append_right (by omega), show y - b - L.length = y - (b + L.length) by omega]
  · rw [if_neg h]
    by_cases h2 : b ≤ y ∧ y < b + L.length
    · rw [if_pos h2, if_pos ⟨h2.1, by omega⟩, List.getElem?_append_left (by omega)]
    · rw [if_neg h2, if_neg (by omega)]
theorem fblk_cons : fblk (fu F b e) (b + 1) L2 = fblk F b (e :: L2) := by
  rw [fblk_0, fblk_app 1 rfl]
  rfl
theorem fblk_pa (k : Nat) (hk : L.length = k) : fblk (fu (fblk F b L) (b + k) e) (b + k + 1) L2 = fblk F b (L ++ e :: L2) := by
  rw [fblk_push k hk]
  show fblk _ (b + (k + 1)) L2 = _
  rw [fblk_app (k + 1) (by rw [List.length_append, hk]; rfl), List.append_assoc]
  rfl
end FXM
section FXG
variable {N0 n : Nat} {D : va_G} {cl : List vw_C} {tys : List (ClassId × FieldType)} {en : fEn} {s : State} {F : Nat → Option va_E} {H : Heap} {locs : List Loc} {b x : Nat} {L L2 : List va_E} {e e0 : va_E}
theorem fG.b0 (h : fG N0 D cl tys en s (fu F b e) n H locs) : fG N0 D cl tys en s (fblk F b [e]) n H locs := by rw [← fblk_0]; exact h
theorem fG.bp (k : Nat) (hk : L.length = k) (h : fG N0 D cl tys en s (fu (fblk F b L) (b + k) e) n H locs) : fG N0 D cl tys en s (fblk F b (L ++ [e])) n H locs := by rw [← fblk_push k hk]; exact h
theorem fG.bs (k : Nat) (hk : k < L.length) (h : fG N0 D cl tys en s (fu (fblk F b L) (b + k) e) n H locs) : fG N0 D cl tys en s (fblk F b (L.set k e)) n H locs := by rw [← fblk_set k hk]; exact h
theorem fG.bo (hx : x < b) (h : fG N0 D cl tys en s (fu (fblk F b L) x e) n H locs) : fG N0 D cl tys en s (fblk (fu F x e) b L) n H locs := by rw [← fblk_out hx]; exact h
theorem fG.bo2 (hx : x < b) (h : fG N0 D cl tys en s (fu (fblk (fu F x e0) b L) x e) n H locs) : fG N0 D cl tys en s (fblk (fu F x e) b L) n H locs := by rw [fblk_out hx, fu_over] at h; exact h
theorem fG.ov (h : fG N0 D cl tys en s (fu (fu F x e0) x e) n H locs) : fG N0 D cl tys en s (fu F x e) n H locs := by rw [fu_over] at h; exact h
theorem fG.ba (k : Nat) (hk : L.length = k) (h : fG N0 D cl tys en s (fblk (fblk F b L) (b + k) L2) n H locs) : fG N0 D cl tys en s (fblk F b (L ++ L2)) n H locs := by rw [← fblk_app k hk]; exact h
theorem fG.bc (k m : Nat) (hk : k < L.length) (hm : L.length = m) (h : fG N0 D cl tys en s (fblk (fu (fblk F b L) (b + k) e) (b + m) L2) n H locs) : fG N0 D cl tys en s (fblk F b (L.set k e ++ L2)) n H locs := by
  rw [← fblk_app m (by rw [List.length_set]; exact hm), ← fblk_set k hk]
  exact h
theorem fG.bq (h : fG N0 D cl tys en s (fblk (fu F b e) (b + 1) L2) n H locs) : fG N0 D cl tys en s (fblk F b (e :: L2)) n H locs := by rw [← fblk_cons]; exact h
theorem fG.bpa (k : Nat) (hk : L.length = k) (h : fG N0 D cl tys en s (fblk (fu (fblk F b L) (b + k) e) (b + k + 1) L2) n H locs) : fG N0 D cl tys en s (fblk F b (L ++ e :: L2)) n H locs := by rw [← fblk_pa k hk]; exact h
end FXG
section FX4
variable {p : Program} {l : Launch} {e : Env} {R : Room} {s : State} {m : MethodId} {args : Array Value} {below : List Frame} {meth : Method} {c : Code} {H : Heap} {locs : List Loc} {cells slots : Nat} {Q : State → Prop}
variable {cc : ByteArray} {pc nL : Nat} {ls : Array Slot} {rest : List Value} {D : va_G} {cl : List vw_C} {tys : List (ClassId × FieldType)} {H0 : Heap} {Ts : List Cond} {own : String} {N0 n : Nat} {F : Nat → Option va_E}
theorem fx_mna (S : CallFix p m c cc nL s args Ts own) (hK : va_K D cl tys s) (hF : fW N0 D cl F n H) (hSv : va_S (fA N0) H0 H locs) {index : Nat} (hclink : (Cond.classLink own index "[[I").before args s = true) (hover : (Cond.arrayOver (.array .int)).before args s = true) (harr : (Cond.arrayClass .int).before args s = true) (t0 t1 : Nat) {cI cII : ClassId} (ht0 : tys[t0]? = some (cI, .int)) (ht1 : tys[t1]? = some (cII, .array .int)) {i k : Int32} {N' K' : Nat} (hn : ¬ i < 0) (hk : ¬ k < 0) (hN : i.toNatClampNeg = N') (hM : k.toNatClampNeg = K')
    (hb1 : N' * 4 ≤ 536870912) (hb2 : K' * 4 ≤ 536870912) (hcells : cells + (1 + N') ≤ R.cells) (hslots : slots + (N' + N' * K') ≤ R.slots) (hdg : decode cc pc = .ok (.multianewarray index 2, 4))
    (kk : ∀ (H1 : Heap), fW N0 D cl (frun (fu F n (.inl (cII, N', .inr (.inr (.inr (.inr (fun j => if j < N' then some (n + 1 + j) else none))))))) (n + 1) N' (.inl (cI, K', .inl (fun _ => 0)))) (n + 1 + N') H1 → va_S (fA N0) H0 H1 locs →
      W p l e R s m args below meth c H1 locs (cells + 1 + N') (slots + N' + N' * K') Q (F0 m (pc + 4) ls (.ref n :: rest))) : W p l e R s m args below meth c H locs cells slots Q (F0 m pc ls (.int k :: .int i :: rest)) := by
  obtain ⟨hexec, hb, hml, hown, hts⟩ := S
  subst hN
  subst hM
  intro T hT Xs
  obtain ⟨vm₁, cA, comp, -, fA1, fC, hO, -, X', step⟩ := Xs.multianewarray2F hexec hown hclink hover harr (g := F0 m pc ls (.int k :: .int i :: rest)) rfl (by rw [hb]; exact hdg) rfl hn hk hb1 (by show _ * 4 ≤ _; exact hb2) (by omega) rfl rfl hcells hslots
  have eI : comp = cI := by
    have h2 : s.vm.findClass ("[" ++ (FieldType.int).toString) = some cI := (hK.2 t0 _ ht0).2
    exact Option.some.inj (fC.symm.trans h2)
  have eII : cA = cII := by
    have h2 : s.vm.findClass ("[" ++ (FieldType.array .int).toString) = some cII := (hK.2 t1 _ ht1).2
    exact Option.some.inj (fA1.symm.trans h2)
  subst eI
  subst eII
  generalize hF0 : Jvm.Free.Multi.fill (T.setVm vm₁) cA comp i.toNatClampNeg k.toNatClampNeg (defaultValue .int) i.toNatClampNeg = G at X' step
  have hTh : (T.setVm vm₁).heap = H := hT
  obtain ⟨f1, f2, -, -⟩ := Jvm.Free.Multi.fill_facts (T.setVm vm₁) cA comp i.toNatClampNeg k.toNatClampNeg (defaultValue .int) i.toNatClampNeg
  rw [hF0, hTh, hF.1] at f1 f2
  have hold : ∀ x : Nat, x < n → G.heap[x]? = H[x]? := fun x hx => by
    have := Jvm.Free.Multi.fill_old (T.setVm vm₁) cA comp i.toNatClampNeg k.toNatClampNeg (defaultValue .int) (a := x) (by rw [hTh, hF.1]; exact hx) i.toNatClampNeg
    rw [hF0, hTh] at this
    exact this
  have hrow : ∀ j : Nat, j < i.toNatClampNeg → G.heap[n + 1 + j]? = some (vp_cell comp (k.toNatClampNeg, .inl (fun _ => 0))) := fun j hj => by
    have := Jvm.Free.Multi.fill_inner (T.setVm vm₁) cA comp i.toNatClampNeg k.toNatClampNeg (defaultValue .int) i.toNatClampNeg j hj
    rw [hF0, hTh, hF.1] at this
    rw [this, vp_cell_i]
    show some ({ cls := comp, slots := Array.replicate _ (.int 0), vm := .none } : Cell) = _
    rw [arrV_new]
  rw [fr_outer] at f2
  have hW : fW N0 D cl (frun (fu F n (.inl (cA, i.toNatClampNeg, .inr (.inr (.inr (.inr (fun j => if j < i.toNatClampNeg then some (n + 1 + j) else none))))))) (n + 1) i.toNatClampNeg (.inl (comp, k.toNatClampNeg, .inl (fun _ => 0)))) (n + 1 + i.toNatClampNeg) G.heap := by
    refine ⟨f1, by have := hF.2.1; omega, fun b x hbx => ?_⟩
    by_cases h1 : n + 1 ≤ b ∧ b < n + 1 + i.toNatClampNeg
    · rw [frun_in h1.1 h1.2] at hbx
      cases hbx
      refine ⟨by have := hF.2.1; omega, ?_⟩
      have := hrow (b - (n + 1)) (by omega)
      rw [show n + 1 + (b - (n + 1)) = b by omega] at this
      exact this
    · rw [frun_out (by omega)] at hbx
      by_cases h2 : b = n
      · subst h2
        rw [fu_s] at hbx
        cases hbx
        refine ⟨hF.2.1, ?_⟩
        show G.heap[b]? = some (vp_cell _ _)
        rw [vp_cell_q]
        exact f2
      · rw [fu_n h2] at hbx
        exact ⟨(hF.2.2 b _ hbx).1, va_at.kept (hF.2.2 b _ hbx).2 (hold b (hF.lt hbx))⟩
  obtain ⟨t, a1, b1⟩ := kk G.heap hW ⟨by rw [f1]; have := hSv.1; have := hF.1; omega, fun x h1 h2 => (hold x (by have := hSv.1; have := hF.1; omega)).trans (hSv.2.1 x h1 h2), hSv.2.2⟩ G rfl X'
  refine ⟨t, step t ?_, b1⟩
  have e : T.heap.size = n := by rw [hT]; exact hF.1
  rw [e]
  exact a1
theorem frun_blk {F : Nat → Option va_E} {b N : Nat} {e : va_E} : frun F b N e = fblk F b (List.replicate N e) := by
  funext x
  unfold frun fblk
  rw [List.length_replicate]
  by_cases h : b ≤ x ∧ x < b + N
  · rw [if_pos h, if_pos h, List.getElem?_replicate, if_pos (by omega)]
  · rw [if_neg h, if_neg h]
theorem gx_mna {en : fEn} (S : CallFix p m c cc nL s args Ts own) (hG : fG N0 D cl tys en s F n H locs) {index : Nat} (hclink : Cond.classLink own index "[[I" ∈ Ts) (harr : Cond.arrayClass .int ∈ Ts) (t0 t1 : Nat) {cI cII : ClassId} (ht0 : tys[t0]? = some (cI, .int)) (ht1 : tys[t1]? = some (cII, .array .int)) {i k : Int32} {N' K' : Nat} (hn : ¬ i < 0) (hk : ¬ k < 0) (hN : i.toNatClampNeg = N') (hM : k.toNatClampNeg = K')
    (hb1 : N' * 4 ≤ 536870912) (hb2 : K' * 4 ≤ 536870912) (hcells : cells + (1 + N') ≤ R.cells) (hslots : slots + (N' + N' * K') ≤ R.slots) (hdg : decode cc pc = .ok (.multianewarray index 2, 4))
    (kk : ∀ (H1 : Heap), fG N0 D cl tys en s (fblk (fu F n (.inl (cII, N', .inr (.inr (.inr (.inr (fun j => if j < N' then some (n + 1 + j) else none))))))) (n + 1) (List.replicate N' (.inl (cI, K', .inl (fun _ => 0))))) (n + 1 + N') H1 locs →
      W p l e R s m args below meth c H1 locs (cells + 1 + N') (slots + N' + N' * K') Q (F0 m (pc + 4) ls (.ref n :: rest))) : W p l e R s m args below meth c H locs cells slots Q (F0 m pc ls (.int k :: .int i :: rest)) :=
  fx_mna S hG.2.2.1 hG.1 hG.2.1 (S.2.2.2.2 _ hclink) (va_AOA.use hG.aoa) (S.2.2.2.2 _ harr) t0 t1 ht0 ht1 hn hk hN hM hb1 hb2 hcells hslots hdg (fun H1 h1 h2 => kk H1 (hG.next (by rw [← frun_blk]; exact h1) h2))
theorem gx_ldcS {en : fEn} (S : CallFix p m c cc nL s args Ts own) (hG : fG N0 D cl tys en s F n H locs) {index : Nat} (q : Nat) {tx : String} (hm : (own, index, tx, q) ∈ en.1.1) (hdg : decode cc pc = .ok (.ldc index, 2)) (kk : vk_R own index tx q s → W p l e R s m args below meth c H locs cells slots Q (F0 m (pc + 2) ls (.ref q :: rest))) : W p l e R s m args below meth c H locs cells slots Q (F0 m pc ls rest) := by
  exact va_ldcS S.1 S.2.1 S.2.2.2.1 (hG.lit hm) hdg (kk (hG.lit hm))
end FX4
