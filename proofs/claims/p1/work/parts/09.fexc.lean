/-! ===== THROWS OVER THE MAP ===== -/
section FX6
variable {p : Program} {l : Launch} {e : Env} {R : Room} {s : State} {m : MethodId} {args : Array Value} {below : List Frame} {meth : Method} {c : Code} {H : Heap} {locs : List Loc} {cells slots : Nat} {Q : State → Prop}
variable {cc : ByteArray} {pc nL : Nat} {ls : Array Slot} {rest st0 As : List Value} {D : va_G} {cl : List vw_C} {b : Nat} {tys : List (ClassId × FieldType)} {Ts : List Cond} {own : String} {N0 n n0 : Nat} {F F' : Nat → Option va_E}
variable {en : fEn} {y : MethodName} {bytes : ByteArray} {maxL mc ms k index ci : Nat} {ret : Option FieldType} {ws : List Cond} {rm : Room} {r : vw_C} {fs : List Value} {E0 : String} {Qc : Array Value → State → Outcome → State → Prop}
/-- where E0 is thrown: the world is F', the heap has not shrunk -/
abbrev fXC (N0 : Nat) (D : va_G) (cl : List vw_C) (tys : List (ClassId × FieldType)) (E0 : String) (F' : Nat → Option va_E) (n : Nat) := vx_X (fun (_ : Unit) => True) (fun E (_ : Unit) t => E = E0 ∧ ∃ n', n ≤ n' ∧ fB N0 D cl tys F' n' t) (fA N0)
abbrev fNo (N0 : Nat) (D : va_G) (cl : List vw_C) (tys : List (ClassId × FieldType)) (F : Nat → Option va_E) (n : Nat) := fQi N0 D cl tys (fun _ (_ : Unit) => False) (fun _ => F) (fun _ => n)
theorem fXC.of (hG : fG N0 D cl tys en s F' n H locs) (hn : n0 ≤ n) {t : State} (ht : t.heap = H) (hvm : s.vm.Alike t.vm) : fXC N0 D cl tys E0 F' n0 E0 s t := ⟨(), trivial, ⟨rfl, n, hn, by rw [ht]; exact hG.1, va_K.moved hvm hG.2.2.1⟩, hG.2.1.F ht⟩
theorem fx_startX {XC : String → State → State → Prop} {ws' : List Cond} {av : List Value} (nL : Nat) (hy : plainName y.cls = true) (hw : ws = Cond.code y cc nL ret :: ws') (hlen : (lg_sl av).length ≤ nL)
    (body : ∀ (p : Program) (e : Env) (s : State) (m : MethodId) (below : List Frame) (meth : Method) (c : Code) (ls : Array Slot), CallFix p m c cc nL s av.toArray ws y.cls → (∀ x ∈ c.exceptionTable.toList, False) → meth.locks = false → fG N0 D cl tys en s F n s.heap [] → lv_has ls nL (lv_args 0 av) →
      W p l e { frames := rm.frames, cells := mc, slots := ms, locals := rm.locals } s m av.toArray below meth c s.heap [] 0 0 (vx_MQ below Qc XC av.toArray s mc ms (fA N0)) (F0 m 0 ls [])) (hrm : rm = { frames := rm.frames, cells := mc, slots := ms, locals := rm.locals }) :
    vx_Met l y ws rm (va_Pc av (fP N0 D cl tys en F n)) Qc XC mc ms (fA N0) := by
  refine vx_ofW (cc := cc) (maxL := nL) (ret := ret) hy hw ?_
  intro p e s m args below meth c s₁ B hml htab hv
  obtain ⟨rfl, hP⟩ := hv
  have hts := atoms_spec (ws := ws) B.pre
  have hown : s.vm.findClass y.cls = some m.cls := findClass_of_methodNamed B.named
  have hl := lv_entry av (n := nL) hlen
  have hb := body p e s m below meth c ((lg_sl av ++ List.replicate (nL - (lg_sl av).length) Slot.unset).toArray) ⟨B.exec, B.bytes, hml, hown, hts⟩ htab B.notSynchronized (fG.start hP) hl
  rw [lg_entry_eq]
  rw [← hrm] at hb
  exact hb
theorem fx_startW {ws' : List Cond} {av : List Value} {hh : List (Nat × Nat × Nat × Nat)} (nL : Nat) (hy : plainName y.cls = true) (hw : ws = Cond.codeWith y cc nL ret hh :: ws') (hlen : (lg_sl av).length ≤ nL)
    (body : ∀ (p : Program) (e : Env) (s : State) (m : MethodId) (below : List Frame) (meth : Method) (c : Code) (ls : Array Slot), CallFix p m c cc nL s av.toArray ws y.cls → c.exceptionTable.toList = tableOf hh → meth.sig.returnType = ret → meth.locks = false → fG N0 D cl tys en s F n s.heap [] → lv_has ls nL (lv_args 0 av) →
      W p l e { frames := rm.frames, cells := mc, slots := ms, locals := rm.locals } s m av.toArray below meth c s.heap [] 0 0 (MQ below Qc av.toArray s mc ms (fA N0)) (F0 m 0 ls [])) (hrm : rm = { frames := rm.frames, cells := mc, slots := ms, locals := rm.locals }) :
    Met l y ws rm (va_Pc av (fP N0 D cl tys en F n)) Qc mc ms (fA N0) := by
  refine va_MetW (cc := cc) (maxL := nL) (ret := ret) (hh := hh) hy hw ?_
  intro p e s m args below meth c s₁ B hml hv
  obtain ⟨rfl, hP⟩ := hv
  have hts := atoms_spec (ws := ws) B.pre
  have htab := vx_table (x := y) B (hts (Cond.codeWith y cc nL ret hh) (by rw [hw]; exact List.mem_cons_self))
  have hown : s.vm.findClass y.cls = some m.cls := findClass_of_methodNamed B.named
  have hl := lv_entry av (n := nL) hlen
  have hb := body p e s m below meth c ((lg_sl av ++ List.replicate (nL - (lg_sl av).length) Slot.unset).toArray) ⟨B.exec, B.bytes, hml, hown, hts⟩ htab B.returns B.notSynchronized (fG.start hP) hl
  rw [lg_entry_eq]
  rw [← hrm] at hb
  exact hb
abbrev fNames : List String := ["java/lang/RuntimeException", "java/lang/Exception"]
abbrev fBad (E : String) : List Cond := [.castable E E, .declares ⟨"java/lang/RuntimeException", "<init>", "(Ljava/lang/String;)V"⟩, .declares ⟨"java/lang/Exception", "<init>", "(Ljava/lang/String;)V"⟩, .declares ⟨"java/lang/Throwable", "<init>", "(Ljava/lang/String;)V"⟩]
theorem fx_throw (S : CallFix p m c cc nL s args Ts own) (hG : fG N0 D cl tys en s F n H locs) (hls : ls.size = nL) (hst : l.stackTraces = false) {text : String} {ik is ic sa : Nat} (hcls : Bundle.fit E0 = true) (hk : Cond.classLink own ik E0 ∈ Ts) (hini : Cond.initialized E0 ∈ Ts) (hlit : (own, is, text, sa) ∈ en.1.1)
    (hat : ∀ w ∈ (vx_atS own ic E0 fNames).filter goodWord, w ∈ Ts) (hbad : ∀ w ∈ (vx_atS own ic E0 fNames).filter (fun w => !goodWord w), w ∈ fBad E0) (hgood : ∀ w ∈ Cond.classLink own ik E0 :: Cond.initialized E0 :: vx_atS own ic E0 fNames, vx_ot w = true)
    (hca : (E0, E0) ∈ en.2.2.2.2.1) (hd1 : ⟨"java/lang/RuntimeException", "<init>", "(Ljava/lang/String;)V"⟩ ∈ en.2.2.2.2.2.1) (hd2 : ⟨"java/lang/Exception", "<init>", "(Ljava/lang/String;)V"⟩ ∈ en.2.2.2.2.2.1) (hd3 : ⟨"java/lang/Throwable", "<init>", "(Ljava/lang/String;)V"⟩ ∈ en.2.2.2.2.2.1)
    (d0 : decode cc pc = .ok (.new ik, 3)) (d3 : decode cc (pc + 3) = .ok (.dup, 1)) (d4 : decode cc (pc + 4) = .ok (.ldc is, 2)) (d6 : decode cc (pc + 6) = .ok (.invokespecial ic, 3)) (d9 : decode cc (pc + 9) = .ok (.athrow, 1))
    (htab : ∀ x ∈ c.exceptionTable.toList, False) (hRframes : 5 < R.frames) (hRlocals : (rest.map fun v => v.category).sum + 82 ≤ R.locals) (hRcells : cells + 1 ≤ R.cells) (hRslots : slots + 6 ≤ R.slots) (hlocks : meth.locks = false) (hc : cells + 1 ≤ mc) (hs : slots + 6 ≤ ms) :
    W p l e R s m args below meth c H locs cells slots (vx_MQ below Qc (fXC N0 D cl tys E0 F n) args s mc ms (fA N0)) (F0 m pc ls rest) := by
  have hsa := hG.lit hlit
  refine vx_throwS (names := fNames) (A := fA N0) S.1 S.2.1 hst S.2.2.2.1 hcls (by decide) (S.2.2.2.2 _ hk) (S.2.2.2.2 _ hini) hsa
    (vx_hat (L := vx_atS own ic E0 fNames) (B := fBad E0) (fun w hw => S.2.2.2.2 w (hat w hw)) hbad (vx_c (va_Nw.use rfl (hG.cast hca)) (vx_c (va_Nw.use rfl (hG.decl hd1)) (vx_c (va_Nw.use rfl (hG.decl hd2)) (vx_c (va_Nw.use rfl (hG.decl hd3)) vx_n)))))
    hgood hG.2.2.2.1 hG.2.2.2.2.1 hG.2.1 (by rw [S.2.2.1]; exact hls) d0 d3 d4 d6 d9 (fun x hx => (htab x hx).elim) hRframes hRlocals hRcells hRslots hlocks ?_ hG.2.1.2.2 hc hs
  intro t hvm hz hq
  exact ⟨(), trivial, ⟨rfl, t.heap.size, by rw [← hG.1.1]; exact hz, hG.1.kept rfl (by rw [← hG.1.1]; exact hz) hq, va_K.moved hvm hG.2.2.1⟩, ⟨Nat.le_trans hG.2.1.1 hz, fun q h1 h2 => (hq q (Nat.lt_of_lt_of_le h1 hG.2.1.1)).trans (hG.2.1.2.1 q h1 h2)⟩⟩
theorem fx_throwW (S : CallFix p m c cc nL s args Ts own) (hG : fG N0 D cl tys en s F n H locs) (hls : ls.size = nL) (hst : l.stackTraces = false) {text : String} {ik is ic sa : Nat} (hcls : Bundle.fit E0 = true) (hk : Cond.classLink own ik E0 ∈ Ts) (hini : Cond.initialized E0 ∈ Ts) (hlit : (own, is, text, sa) ∈ en.1.1)
    (hat : ∀ w ∈ (vx_atS own ic E0 fNames).filter goodWord, w ∈ Ts) (hbad : ∀ w ∈ (vx_atS own ic E0 fNames).filter (fun w => !goodWord w), w ∈ fBad E0) (hgood : ∀ w ∈ Cond.classLink own ik E0 :: Cond.initialized E0 :: vx_atS own ic E0 fNames, vx_ot w = true)
    (hca : (E0, E0) ∈ en.2.2.2.2.1) (hd1 : ⟨"java/lang/RuntimeException", "<init>", "(Ljava/lang/String;)V"⟩ ∈ en.2.2.2.2.2.1) (hd2 : ⟨"java/lang/Exception", "<init>", "(Ljava/lang/String;)V"⟩ ∈ en.2.2.2.2.2.1) (hd3 : ⟨"java/lang/Throwable", "<init>", "(Ljava/lang/String;)V"⟩ ∈ en.2.2.2.2.2.1)
    (d0 : decode cc pc = .ok (.new ik, 3)) (d3 : decode cc (pc + 3) = .ok (.dup, 1)) (d4 : decode cc (pc + 4) = .ok (.ldc_w is, 3)) (d6 : decode cc (pc + 7) = .ok (.invokespecial ic, 3)) (d9 : decode cc (pc + 10) = .ok (.athrow, 1))
    (htab : ∀ x ∈ c.exceptionTable.toList, False) (hRframes : 5 < R.frames) (hRlocals : (rest.map fun v => v.category).sum + 82 ≤ R.locals) (hRcells : cells + 1 ≤ R.cells) (hRslots : slots + 6 ≤ R.slots) (hlocks : meth.locks = false) (hc : cells + 1 ≤ mc) (hs : slots + 6 ≤ ms) :
    W p l e R s m args below meth c H locs cells slots (vx_MQ below Qc (fXC N0 D cl tys E0 F n) args s mc ms (fA N0)) (F0 m pc ls rest) := by
  have hsa := hG.lit hlit
  refine vx_throwSW (names := fNames) (A := fA N0) S.1 S.2.1 hst S.2.2.2.1 hcls (by decide) (S.2.2.2.2 _ hk) (S.2.2.2.2 _ hini) hsa
    (vx_hat (L := vx_atS own ic E0 fNames) (B := fBad E0) (fun w hw => S.2.2.2.2 w (hat w hw)) hbad (vx_c (va_Nw.use rfl (hG.cast hca)) (vx_c (va_Nw.use rfl (hG.decl hd1)) (vx_c (va_Nw.use rfl (hG.decl hd2)) (vx_c (va_Nw.use rfl (hG.decl hd3)) vx_n)))))
    hgood hG.2.2.2.1 hG.2.2.2.2.1 hG.2.1 (by rw [S.2.2.1]; exact hls) d0 d3 d4 d6 d9 (fun x hx => (htab x hx).elim) hRframes hRlocals hRcells hRslots hlocks ?_ hG.2.1.2.2 hc hs
  intro t hvm hz hq
  exact ⟨(), trivial, ⟨rfl, t.heap.size, by rw [← hG.1.1]; exact hz, hG.1.kept rfl (by rw [← hG.1.1]; exact hz) hq, va_K.moved hvm hG.2.2.1⟩, ⟨Nat.le_trans hG.2.1.1 hz, fun q h1 h2 => (hq q (Nat.lt_of_lt_of_le h1 hG.2.1.1)).trans (hG.2.1.2.1 q h1 h2)⟩⟩
theorem fx_throwX (S : CallFix p m c cc nL s args Ts own) (hG : fG N0 D cl tys en s F n H locs) (hls : ls.size = nL) (hst : l.stackTraces = false) {text : String} {ik is ic sa : Nat} (hcls : Bundle.fit E0 = true) (hk : Cond.classLink own ik E0 ∈ Ts) (hini : Cond.initialized E0 ∈ Ts) (hlit : (own, is, text, sa) ∈ en.1.1)
    (hat : ∀ w ∈ (fl_atS own ic E0 fNames).filter goodWord, w ∈ Ts) (hbad : ∀ w ∈ (fl_atS own ic E0 fNames).filter (fun w => !goodWord w), w ∈ fBad E0) (hgood : ∀ w ∈ Cond.classLink own ik E0 :: Cond.initialized E0 :: fl_atS own ic E0 fNames, vx_ot w = true)
    (hca : (E0, E0) ∈ en.2.2.2.2.1) (hd1 : ⟨"java/lang/RuntimeException", "<init>", "(Ljava/lang/String;)V"⟩ ∈ en.2.2.2.2.2.1) (hd2 : ⟨"java/lang/Exception", "<init>", "(Ljava/lang/String;)V"⟩ ∈ en.2.2.2.2.2.1) (hd3 : ⟨"java/lang/Throwable", "<init>", "(Ljava/lang/String;)V"⟩ ∈ en.2.2.2.2.2.1)
    (d0 : decode cc pc = .ok (.new ik, 3)) (d3 : decode cc (pc + 3) = .ok (.dup, 1)) (d4 : decode cc (pc + 4) = .ok (.ldc is, 2)) (d6 : decode cc (pc + 6) = .ok (.invokespecial ic, 3)) (d9 : decode cc (pc + 9) = .ok (.athrow, 1))
    (htab : ∀ x ∈ c.exceptionTable.toList, False) (hRframes : 5 < R.frames) (hRlocals : (rest.map fun v => v.category).sum + 82 ≤ R.locals) (hRcells : cells + 1 ≤ R.cells) (hRslots : slots + 6 ≤ R.slots) (hlocks : meth.locks = false) (hc : cells + 1 ≤ mc) (hs : slots + 6 ≤ ms) :
    W p l e R s m args below meth c H locs cells slots (vx_MQ below Qc (fXC N0 D cl tys E0 F n) args s mc ms (fA N0)) (F0 m pc ls rest) := by
  have hsa := hG.lit hlit
  refine fl_throwS (names := fNames) (A := fA N0) S.1 S.2.1 hst S.2.2.2.1 hcls (by decide) (S.2.2.2.2 _ hk) (S.2.2.2.2 _ hini) hsa
    (vx_hat (L := fl_atS own ic E0 fNames) (B := fBad E0) (fun w hw => S.2.2.2.2 w (hat w hw)) hbad (vx_c (va_Nw.use rfl (hG.cast hca)) (vx_c (va_Nw.use rfl (hG.decl hd1)) (vx_c (va_Nw.use rfl (hG.decl hd2)) (vx_c (va_Nw.use rfl (hG.decl hd3)) vx_n)))))
    hgood hG.2.2.2.1 hG.2.2.2.2.1 hG.2.1 (by rw [S.2.2.1]; exact hls) d0 d3 d4 d6 d9 (fun x hx => (htab x hx).elim) hRframes hRlocals hRcells hRslots hlocks ?_ hG.2.1.2.2 hc hs
  intro t hvm hz hq
  exact ⟨(), trivial, ⟨rfl, t.heap.size, by rw [← hG.1.1]; exact hz, hG.1.kept rfl (by rw [← hG.1.1]; exact hz) hq, va_K.moved hvm hG.2.2.1⟩, ⟨Nat.le_trans hG.2.1.1 hz, fun q h1 h2 => (hq q (Nat.lt_of_lt_of_le h1 hG.2.1.1)).trans (hG.2.1.2.1 q h1 h2)⟩⟩
theorem fx_throwXW (S : CallFix p m c cc nL s args Ts own) (hG : fG N0 D cl tys en s F n H locs) (hls : ls.size = nL) (hst : l.stackTraces = false) {text : String} {ik is ic sa : Nat} (hcls : Bundle.fit E0 = true) (hk : Cond.classLink own ik E0 ∈ Ts) (hini : Cond.initialized E0 ∈ Ts) (hlit : (own, is, text, sa) ∈ en.1.1)
    (hat : ∀ w ∈ (fl_atS own ic E0 fNames).filter goodWord, w ∈ Ts) (hbad : ∀ w ∈ (fl_atS own ic E0 fNames).filter (fun w => !goodWord w), w ∈ fBad E0) (hgood : ∀ w ∈ Cond.classLink own ik E0 :: Cond.initialized E0 :: fl_atS own ic E0 fNames, vx_ot w = true)
    (hca : (E0, E0) ∈ en.2.2.2.2.1) (hd1 : ⟨"java/lang/RuntimeException", "<init>", "(Ljava/lang/String;)V"⟩ ∈ en.2.2.2.2.2.1) (hd2 : ⟨"java/lang/Exception", "<init>", "(Ljava/lang/String;)V"⟩ ∈ en.2.2.2.2.2.1) (hd3 : ⟨"java/lang/Throwable", "<init>", "(Ljava/lang/String;)V"⟩ ∈ en.2.2.2.2.2.1)
    (d0 : decode cc pc = .ok (.new ik, 3)) (d3 : decode cc (pc + 3) = .ok (.dup, 1)) (d4 : decode cc (pc + 4) = .ok (.ldc_w is, 3)) (d6 : decode cc (pc + 7) = .ok (.invokespecial ic, 3)) (d9 : decode cc (pc + 10) = .ok (.athrow, 1))
    (htab : ∀ x ∈ c.exceptionTable.toList, False) (hRframes : 5 < R.frames) (hRlocals : (rest.map fun v => v.category).sum + 82 ≤ R.locals) (hRcells : cells + 1 ≤ R.cells) (hRslots : slots + 6 ≤ R.slots) (hlocks : meth.locks = false) (hc : cells + 1 ≤ mc) (hs : slots + 6 ≤ ms) :
    W p l e R s m args below meth c H locs cells slots (vx_MQ below Qc (fXC N0 D cl tys E0 F n) args s mc ms (fA N0)) (F0 m pc ls rest) := by
  have hsa := hG.lit hlit
  refine fl_throwSW (names := fNames) (A := fA N0) S.1 S.2.1 hst S.2.2.2.1 hcls (by decide) (S.2.2.2.2 _ hk) (S.2.2.2.2 _ hini) hsa
    (vx_hat (L := fl_atS own ic E0 fNames) (B := fBad E0) (fun w hw => S.2.2.2.2 w (hat w hw)) hbad (vx_c (va_Nw.use rfl (hG.cast hca)) (vx_c (va_Nw.use rfl (hG.decl hd1)) (vx_c (va_Nw.use rfl (hG.decl hd2)) (vx_c (va_Nw.use rfl (hG.decl hd3)) vx_n)))))
    hgood hG.2.2.2.1 hG.2.2.2.2.1 hG.2.1 (by rw [S.2.2.1]; exact hls) d0 d3 d4 d6 d9 (fun x hx => (htab x hx).elim) hRframes hRlocals hRcells hRslots hlocks ?_ hG.2.1.2.2 hc hs
  intro t hvm hz hq
  exact ⟨(), trivial, ⟨rfl, t.heap.size, by rw [← hG.1.1]; exact hz, hG.1.kept rfl (by rw [← hG.1.1]; exact hz) hq, va_K.moved hvm hG.2.2.1⟩, ⟨Nat.le_trans hG.2.1.1 hz, fun q h1 h2 => (hq q (Nat.lt_of_lt_of_le h1 hG.2.1.1)).trans (hG.2.1.2.1 q h1 h2)⟩⟩
theorem fx_xV (S : CallFix p m c cc nL s args Ts own) (hG : fG N0 D cl tys en s F n H locs) (hM : vx_Met l y ws rm (va_Pc (.ref b :: As) (fP N0 D cl tys en F n)) (fNo N0 D cl tys F n) (fXC N0 D cl tys E0 F' n0) mc ms (fA N0)) (he : F b = some (.inr (ci, fs))) (hc : cl[ci]? = some r) (cw : CallW R s args own r.1 index y bytes maxL ret ws rm mc ms k) (hn : As.length = k) (hls : ls.size = nL) (hst : st0 = As.reverse ++ .ref b :: rest) (hW : (rest.map fun v => v.category).sum ≤ 8) (hdg : decode cc pc = .ok (.invokevirtual index, 3)) (hf : cells + mc ≤ R.cells ∧ slots + ms ≤ R.slots)
    (kx : ∀ (ce : Cell) (q : Addr) (H1 : Heap) (locs1 : List Loc) (n1 : Nat), n0 ≤ n1 → fG N0 D cl tys en s F' n1 H1 locs1 → H1[q]? = some ce → ce.vm = .none → s.vm.findClass E0 = some ce.cls → vx_W p l e R s m args below meth c H1 locs1 (cells + mc) (slots + ms) Q (F0 m pc ls rest) q) : W p l e R s m args below meth c H locs cells slots Q (F0 m pc ls st0) :=
  vx_calli (vx_runV (As := As) (rest := rest) S hM cw (hG.preV he hc) rfl hn hls hst (lv_room hW) hdg hf) hG.2.1 (fun q _ h => h) (fun q h => h) (fun q _ h => h)
    (fun E ce q9 u t H1 locs1 ht hvm hp hB hz hk hS h1 h2 h3 => by
      obtain ⟨rfl, n1, hn1, hB1⟩ := hB
      exact kx ce q9 H1 locs1 n1 hn1 (hG.next (by rw [← ht]; exact hB1.1) hS) h1 h2 h3)
    (fun rv u t H1 locs1 ht hvm hw hB hz1 hk1 hS => hw.elim)
theorem fx_xS (S : CallFix p m c cc nL s args Ts own) (hG : fG N0 D cl tys en s F n H locs) (hM : vx_Met l y ws rm (va_Pc (As) (fP N0 D cl tys en F n)) (fNo N0 D cl tys F n) (fXC N0 D cl tys E0 F' n0) mc ms (fA N0))  (cw : (CallB R s args own index y bytes maxL ret ws rm mc ms k ∧ (Cond.static y).before args s = true)) (hn : As.length = k) (hls : ls.size = nL) (hst : st0 = As.reverse ++ rest) (hW : (rest.map fun v => v.category).sum ≤ 8) (hdg : decode cc pc = .ok (.invokestatic index, 3)) (hf : cells + mc ≤ R.cells ∧ slots + ms ≤ R.slots)
    (kx : ∀ (ce : Cell) (q : Addr) (H1 : Heap) (locs1 : List Loc) (n1 : Nat), n0 ≤ n1 → fG N0 D cl tys en s F' n1 H1 locs1 → H1[q]? = some ce → ce.vm = .none → s.vm.findClass E0 = some ce.cls → vx_W p l e R s m args below meth c H1 locs1 (cells + mc) (slots + ms) Q (F0 m pc ls rest) q) : W p l e R s m args below meth c H locs cells slots Q (F0 m pc ls st0) :=
  vx_calli (vx_runS (As := As) (rest := rest) S hM cw hG.preS rfl hn hls hst (lv_room hW) hdg hf) hG.2.1 (fun q _ h => h) (fun q h => h) (fun q _ h => h)
    (fun E ce q9 u t H1 locs1 ht hvm hp hB hz hk hS h1 h2 h3 => by
      obtain ⟨rfl, n1, hn1, hB1⟩ := hB
      exact kx ce q9 H1 locs1 n1 hn1 (hG.next (by rw [← ht]; exact hB1.1) hS) h1 h2 h3)
    (fun rv u t H1 locs1 ht hvm hw hB hz1 hk1 hS => hw.elim)
/-- not caught here -/
theorem fx_out {ce : Cell} {q : Addr} (htab : ∀ x ∈ c.exceptionTable.toList, False) (hlocks : meth.locks = false) (hG : fG N0 D cl tys en s F' n H locs) (hn : n0 ≤ n) (h1 : H[q]? = some ce) (h2 : ce.vm = .none) (h3 : s.vm.findClass E0 = some ce.cls) (hc : cells ≤ mc) (hs : slots ≤ ms) :
    vx_W p l e R s m args below meth c H locs cells slots (vx_MQ below Qc (fXC N0 D cl tys E0 F' n0) args s mc ms (fA N0)) (F0 m pc ls rest) q :=
  vx_out (fun x hx => (htab x hx).elim) hlocks h1 h2 h3 (fun t ht hvm => fXC.of hG hn ht hvm) hG.2.1.2.2 hc hs
/-- caught by the row x; the rows of pre name other classes -/
theorem fx_catch (S : CallFix p m c cc nL s args Ts own) {ce : Cell} {q : Addr} {hh : List (Nat × Nat × Nat × Nat)} (htab : c.exceptionTable.toList = tableOf hh) (hG : fG N0 D cl tys en s F' n H locs) (h1 : H[q]? = some ce) (h2 : ce.vm = .none) (h3 : s.vm.findClass E0 = some ce.cls) (pre : List ExceptionTableEntry) (x : ExceptionTableEntry) (suf : List ExceptionTableEntry) (hsplit : tableOf hh = pre ++ x :: suf) (ns : List String)
    (hpass : ∀ z ∈ pre, z.catchType ≠ 0 ∧ ∃ nm : String, Cond.classLink own z.catchType nm ∈ Ts ∧ (E0, nm) ∈ en.2.2.2.2.2.2) (hx : covers x pc = true) (hx0 : x.catchType ≠ 0) (hlink : Cond.classLink own x.catchType E0 ∈ Ts) (hca : (E0, E0) ∈ en.2.2.2.2.1)
    (kk : W p l e R s m args below meth c H locs cells slots Q (F0 m x.handlerPc ls [.ref q])) : vx_W p l e R s m args below meth c H locs cells slots Q (F0 m pc ls rest) q :=
  vx_catch S.2.2.2.1 pre x suf (htab.trans hsplit) (fun z hz => by
    obtain ⟨hz0, nm, hl, hnc⟩ := hpass z hz
    exact Or.inr ⟨hz0, nm, S.2.2.2.2 _ hl, hG.nc hnc⟩) hx hx0 (S.2.2.2.2 _ hlink) (va_Nw.use rfl (hG.cast hca)) h1 h2 h3 kk
/-- a static call of a method with a table -/
theorem fx_cTi {U : Type} {F2 : U → Nat → Option va_E} {n2 : U → Nat} {hh : List (Nat × Nat × Nat × Nat)} {post : Int32 → U → Prop} (S : CallFix p m c cc nL s args Ts own) (hG : fG N0 D cl tys en s F n H locs) (hM : Met l y ws rm (va_Pc As (fP N0 D cl tys en F n)) (fQi N0 D cl tys post F2 n2) mc ms (fA N0)) (cw : vx_CSW R s args own index y bytes maxL ret hh ws rm mc ms k) (hn : As.length = k) (hls : ls.size = nL) (hst : st0 = As.reverse ++ rest) (hW : (rest.map fun v => v.category).sum ≤ 8) (hdg : decode cc pc = .ok (.invokestatic index, 3)) (hf : cells + mc ≤ R.cells ∧ slots + ms ≤ R.slots)
    (kk : ∀ (rv : Int32) (u : U) (H1 : Heap) (locs1 : List Loc), post rv u → fG N0 D cl tys en s (F2 u) (n2 u) H1 locs1 → W p l e R s m args below meth c H1 locs1 (cells + mc) (slots + ms) Q (F0 m (pc + 3) ls (.int rv :: rest))) : W p l e R s m args below meth c H locs cells slots Q (F0 m pc ls st0) :=
  va_calli (vx_runSW (As := As) (rest := rest) S hM cw hG.preS rfl hn hls hst (lv_room hW) hdg hf) hG.2.1 (fun q _ h => h) (fun q h => h) (fun rv u t H1 locs1 ht hvm hw hB hz1 hk1 hS => kk rv u H1 locs1 hw (hG.next (by rw [← ht]; exact hB.1) hS))
theorem gx_mmin (S : CallFix p m c cc nL s args Ts own) (hls : ls.size = nL) (hlink : Cond.methodLink own index Lib.Math.min.name ∈ Ts) (hstat : Cond.static Lib.Math.min.name ∈ Ts) (hini : Cond.initialized "java/lang/Math" ∈ Ts) (hcode : Cond.code Lib.Math.min.name Lib.Math.min.code 2 (some .int) ∈ Ts)
    (hframes : 1 ≤ R.frames) (hlocals : (rest.map fun v => v.category).sum + 13 ≤ R.locals) (hc : cells ≤ R.cells) (hs : slots ≤ R.slots) {x y : Int32} (hdg : decode cc pc = .ok (.invokestatic index, 3))
    (kk : W p l e R s m args below meth c H locs cells slots Q (F0 m (pc + 3) ls (.int (if y < x then y else x) :: rest))) : W p l e R s m args below meth c H locs cells slots Q (F0 m pc ls (.int y :: .int x :: rest)) :=
  va_mmin S.1 S.2.1 (by rw [S.2.2.1]; exact hls.symm) S.2.2.2.1 (S.2.2.2.2 _ hlink) (S.2.2.2.2 _ hstat) (S.2.2.2.2 _ hini) (S.2.2.2.2 _ hcode) hframes hlocals hc hs hdg kk
end FX6
theorem fcpy_none {f g : Nat → Int32} : va_cpy f g (0 : Int32).toNatClampNeg (0 : Int32).toNatClampNeg (0 : Int32).toNatClampNeg = g := by
  funext j
  show (if 0 ≤ j ∧ j < 0 + 0 then f (0 + (j - 0)) else g j) = g j
  rw [if_neg (by omega)]
def fz (k : Nat) (f : Nat → Int32) : Prop := ∀ j, k ≤ j → f j = 0
theorem fz_0 {k : Nat} : fz k (fun _ => 0) := fun _ _ => rfl
theorem fz_u {k i : Nat} {v : Int32} {f : Nat → Int32} (h : fz k f) (hi : i < k) : fz k (upd f i v) := fun j hj => (if_neg (show ¬ j = i by omega)).trans (h j hj)
theorem fcpy_full {f g : Nat → Int32} {k : Int32} (hf : fz k.toNatClampNeg f) (hg : fz k.toNatClampNeg g) : va_cpy f g (0 : Int32).toNatClampNeg (0 : Int32).toNatClampNeg k.toNatClampNeg = f := by
  funext j
  show (if 0 ≤ j ∧ j < 0 + k.toNatClampNeg then f (0 + (j - 0)) else g j) = f j
  by_cases h : j < k.toNatClampNeg
  · rw [if_pos (by omega)]
    congr 1
    omega
  · rw [if_neg (by omega), hg j (by omega), hf j (by omega)]
theorem fcpy_same {f : Nat → Int32} {k : Nat} : va_cpy f f (0 : Int32).toNatClampNeg (0 : Int32).toNatClampNeg k = f := by
  funext j
  show (if 0 ≤ j ∧ j < 0 + k then f (0 + (j - 0)) else f j) = f j
  split
  · congr 1
    omega
  · rfl
theorem ffit0 : ∀ i : Nat, fits .char (.int ((fun _ => 0 : Nat → Int32) i)) = true := fun _ => rfl
theorem ffitU {f : Nat → Int32} {k : Nat} {x : Int32} (h : ∀ i, fits .char (.int (f i)) = true) (hx : fits .char (.int x) = true) : ∀ i, fits .char (.int (upd f k x i)) = true := fun i => by
  unfold upd
  split
  · exact hx
  · exact h i
