/-! the law's own steps -/
section FL1
variable {p : Program} {l : Launch} {e : Env} {R : Room} {s : State} {m : MethodId} {args : Array Value} {below : List Frame} {meth : Method} {c : Code} {H : Heap} {locs : List Loc} {cells slots : Nat} {Q : State → Prop}
variable {cc : ByteArray} {pc nL : Nat} {ls : Array Slot} {rest : List Value} {D : va_G} {cl : List vw_C} {tys : List (ClassId × FieldType)} {Ts : List Cond} {own : String} {N0 n : Nat} {F : Nat → Option va_E} {en : fEn}
theorem gx_sld (S : CallFix p m c cc nL s args Ts own) (hG : fG N0 D cl tys en s F n H locs) {b L : Nat} {xs : Nat → Int32} (hX : va_X b L xs s s.heap) (hbl : b < s.heap.size ∧ b < N0) {i : Int32} (hin : vp_in i L) {v : Int32} (hv : xs i.toNatClampNeg = v) (hdg : decode cc pc = .ok (.iaload, 1))
    (kk : W p l e R s m args below meth c H locs cells slots Q (F0 m (pc + 1) ls (.int v :: rest))) : W p l e R s m args below meth c H locs cells slots Q (F0 m pc ls (.int i :: .ref b :: rest)) :=
  va_sld S.1 S.2.1 hX hbl.1 (Nat.not_le.mpr hbl.2) hG.2.1 hin hdg (by subst hv; exact kk)
theorem gx_slen (S : CallFix p m c cc nL s args Ts own) (hG : fG N0 D cl tys en s F n H locs) {b L : Nat} {xs : Nat → Int32} (hX : va_X b L xs s s.heap) (hbl : b < s.heap.size ∧ b < N0) {v : Int32} (hv : Int32.ofNat L = v) (hdg : decode cc pc = .ok (.arraylength, 1))
    (kk : W p l e R s m args below meth c H locs cells slots Q (F0 m (pc + 1) ls (.int v :: rest))) : W p l e R s m args below meth c H locs cells slots Q (F0 m pc ls (.ref b :: rest)) :=
  va_slen S.1 S.2.1 hX hbl.1 (Nat.not_le.mpr hbl.2) hG.2.1 hdg (by subst hv; exact kk)
theorem gx_lcmpEq (S : CallFix p m c cc nL s args Ts own) {x y : Int64} (h : x = y) (hdg : decode cc pc = .ok (.lcmp, 1)) (kk : W p l e R s m args below meth c H locs cells slots Q (F0 m (pc + 1) ls (.int 0 :: rest))) : W p l e R s m args below meth c H locs cells slots Q (F0 m pc ls (.long y :: .long x :: rest)) := by
  subst h
  obtain ⟨h1, h2, -⟩ := S
  intro T hT X
  obtain ⟨t, a, b⟩ := kk T hT X
  exact ⟨t, X.lcmpEq h1 (by rw [h2]; exact hdg) _ a, b⟩
theorem gx_dconst0 (S : CallFix p m c cc nL s args Ts own) {v : UInt64} (hv : FP.dconst0 = v) (hdg : decode cc pc = .ok (.dconst 0, 1)) (kk : W p l e R s m args below meth c H locs cells slots Q (F0 m (pc + 1) ls (.double v :: rest))) : W p l e R s m args below meth c H locs cells slots Q (F0 m pc ls rest) :=
  lv_dconst0 S.1 S.2.1 hdg (by rw [hv]; exact kk)
theorem gx_dconst1 (S : CallFix p m c cc nL s args Ts own) {v : UInt64} (hv : FP.dconst1 = v) (hdg : decode cc pc = .ok (.dconst 1, 1)) (kk : W p l e R s m args below meth c H locs cells slots Q (F0 m (pc + 1) ls (.double v :: rest))) : W p l e R s m args below meth c H locs cells slots Q (F0 m pc ls rest) :=
  lv_dconst1 S.1 S.2.1 hdg (by rw [hv]; exact kk)
theorem gx_i2d (S : CallFix p m c cc nL s args Ts own) {x : Int32} {v : UInt64} (hv : FP.i2d x = v) (hdg : decode cc pc = .ok (.i2d, 1)) (kk : W p l e R s m args below meth c H locs cells slots Q (F0 m (pc + 1) ls (.double v :: rest))) : W p l e R s m args below meth c H locs cells slots Q (F0 m pc ls (.int x :: rest)) :=
  lv_i2d S.1 S.2.1 hdg (by rw [hv]; exact kk)
theorem gx_ddiv (S : CallFix p m c cc nL s args Ts own) {x y : UInt64} {v : UInt64} (hv : FP.ddiv x y = v) (hne : vf_n64 v) (hdg : decode cc pc = .ok (.ddiv, 1)) (kk : W p l e R s m args below meth c H locs cells slots Q (F0 m (pc + 1) ls (.double v :: rest))) : W p l e R s m args below meth c H locs cells slots Q (F0 m pc ls (.double y :: .double x :: rest)) :=
  lv_ddiv S.1 S.2.1 hdg (by rw [hv]; exact hne) (by rw [hv]; exact kk)
theorem gx_dsub (S : CallFix p m c cc nL s args Ts own) {x y : UInt64} {v : UInt64} (hv : FP.dsub x y = v) (hne : vf_n64 v) (hdg : decode cc pc = .ok (.dsub, 1)) (kk : W p l e R s m args below meth c H locs cells slots Q (F0 m (pc + 1) ls (.double v :: rest))) : W p l e R s m args below meth c H locs cells slots Q (F0 m pc ls (.double y :: .double x :: rest)) :=
  lv_dsub S.1 S.2.1 hdg (by rw [hv]; exact hne) (by rw [hv]; exact kk)
theorem gx_dcmp (S : CallFix p m c cc nL s args Ts own) {x y : UInt64} {op : CmpOp} {v : Int32} (hv : Op.cmpValue (FP.dcmp x y) op = v) (hdg : decode cc pc = .ok (.dcmp op, 1)) (kk : W p l e R s m args below meth c H locs cells slots Q (F0 m (pc + 1) ls (.int v :: rest))) : W p l e R s m args below meth c H locs cells slots Q (F0 m pc ls (.double y :: .double x :: rest)) :=
  lv_dcmp S.1 S.2.1 hdg (by rw [hv]; exact kk)
end FL1
theorem fl_cut (x k k' : Int32) (hk : k'.toInt + 1 = k.toInt) : x ≤ k' ∨ k ≤ x := by
  rw [Int32.le_iff_toInt_le, Int32.le_iff_toInt_le]
  omega
theorem fl_c0 (x : Int32) : 0 ≤ (x.toUInt32 % 65536).toInt32 ∧ (x.toUInt32 % 65536).toInt32 ≤ 65535 := by
  have h : (x.toUInt32 % 65536).toNat < 65536 := by
    rw [UInt32.toNat_mod]
    exact Nat.mod_lt _ (by decide)
  generalize x.toUInt32 % 65536 = u at h
  have e : u = UInt32.ofNat u.toNat := UInt32.ofNat_toNat.symm
  rw [e, UInt32.toInt32_ofNat']
  exact ⟨(show Int32.ofNat 0 ≤ Int32.ofNat u.toNat from (Int32.ofNat_le_ofNat (by decide) (by omega)).mpr (Nat.zero_le _)), (show Int32.ofNat u.toNat ≤ Int32.ofNat 65535 from (Int32.ofNat_le_ofNat (by omega) (by decide)).mpr (by omega))⟩
