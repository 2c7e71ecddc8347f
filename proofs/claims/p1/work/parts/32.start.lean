/-! ===== THE START: what the Statement gives, as the walks want it ===== -/
section ST0
variable {s : State} {args : Array Value}
theorem st_arr {ty : FieldType} (hp : ∀ C, ty ≠ .object C) (h : (Cond.arrayClass ty).before args s = true) : ∃ cA : ClassId, ArrOfT s cA ty ∧ va_RA s cA ty := by
  obtain ⟨c, k, comp, h1, h2, h3⟩ := Cond.arrayClass_spec h
  refine ⟨c, fun n z => ⟨fun q hq => (by cases hq), k, h2, comp, h3⟩, ?_⟩
  cases ty with
  | object C => exact absurd rfl (hp C)
  | _ => exact h1
theorem st_arrA (h : (Cond.arrayOver (.array .int)).before args s = true) : ∃ cA : ClassId, ArrOfT s cA (.array .int) ∧ va_RA s cA (.array .int) := by
  obtain ⟨comp, c, k, h1, h2, h3, h4, h5⟩ := Jvm.Stand.arrayOver_specB h
  exact ⟨c, fun n z => ⟨fun q hq => (by cases hq), k, h3, comp, h4⟩, h5⟩
theorem st_arrO {C : String} (h : (Cond.arrayOver (.object C)).before args s = true) : ∃ cA : ClassId, ArrOfT s cA (.object C) ∧ va_RA s cA (.object C) := by
  obtain ⟨comp, c, k, h1, h2, h3, h4, h5⟩ := Cond.arrayOver_spec h
  exact ⟨c, fun n z => ⟨fun q hq => (by cases hq), k, h3, comp, h4⟩, k, comp, h3, h4, h1, h5⟩
theorem st_lit {own tx : String} {i : Nat} (h1 : (Cond.stringRef own i tx).before args s = true) (h2 : (Cond.exactly (.string own i) "java/lang/String").before args s = true) : ∃ a : Nat, vk_R own i tx a s := by
  obtain ⟨a, c, cA, kA, q1, -⟩ := Cond.exactly_spec (args := args) (first := s) (o := none) (s := s) (idx := []) (t := .string own i) (cls := "java/lang/String") h2
  exact ⟨a, vk_R.of h1 q1⟩
theorem st_old {own tx : String} {i q : Nat} {A : Nat → Prop} (hR : vk_R own i tx q s) (h1 : (Cond.exactly (.string own i) "java/lang/String").before args s = true) (h2 : (Cond.eq (.field (.string own i) "java/lang/String" "coder" "B") (.int 0)).before args s = true) (h3 : (Cond.arrayOf (.field (.string own i) "java/lang/String" "value" "[B") .byte).before args s = true) (h4 : (Cond.eq (.length (.field (.string own i) "java/lang/String" "value" "[B")) (.int 0)).before args s = true) (hA : ∀ a : Nat, a < s.heap.size → ¬ A a) :
    ∃ v : Nat, va_O "java/lang/String" q A s s.heap ∧ va_OF "java/lang/String" "coder" "B" (.int 0) q A s s.heap ∧ va_OF "java/lang/String" "value" "[B" (.ref v) q A s s.heap ∧ va_T .byte v 0 (fun _ => .int 0) A s s.heap := by
  obtain ⟨a, c, cA, kA, q1, q2, q3, q4, q5, q6, -⟩ := Cond.exactly_spec (args := args) (first := s) (o := none) (s := s) (idx := []) (t := .string own i) (cls := "java/lang/String") h1
  have hq : (Term.string own i).eval args s none [] s = some (.ref q) := hR.2
  have e : a = q := by
    have e1 := q1.symm.trans hq
    simpa using e1
  subst e
  obtain ⟨t, ht, hT⟩ := va_Tof (N := 0) (f := fun _ => .int 0) (A := A) (by decide) h3 (va_eqt h4) (fun j hj => absurd hj (Nat.not_lt_zero j)) hA
  exact ⟨t, ⟨cA, q3, q5, by rw [q6]; exact q2, hA a (Array.getElem?_eq_some_iff.mp q3).1⟩, vk_OFof q1 (va_eqt h2) hA, vk_OFof q1 ht hA, hT⟩
end ST0
abbrev st_At (p : Program) (s : State) (m : MethodId) (meth : Method) (c : Code) (b L : Nat) (xs : Nat → Int32) : Prop := lw_At p s m meth c b L xs
section ST1
variable {p : Program} {s : State} {m : MethodId} {meth : Method} {c : Code} {b L : Nat} {xs : Nat → Int32}
theorem st_fix (C : lw_At p s m meth c b L xs) : CallFix p m c cL_law 9 s #[.ref b] wsL_law "TreeDifferLaw" := ⟨C.1, C.2.1, C.2.2.2.1, C.2.2.2.2.1, fl_hts C.2.2.2.2.2.1⟩
set_option maxRecDepth 20000 in
theorem st_knRJ0 (C : lw_At p s m meth c b L xs) : ∃ q : ClassId × (Nat → Nat), u_Kn s RJ0 TJ0 4 q.1 q.2 := by
  obtain ⟨c0, i0, h⟩ := u_known (C := RJ0) (T := TJ0) (N := 4) (n := 4) (st_fix C).2.2.2.2 (show ∀ w ∈ u_ws RJ0 TJ0 4, w ∈ wsL_law by decide +kernel) (C.2.2.2.2.2.1 _ (List.mem_of_getElem? (i := 1575) (by decide +kernel)))
  exact ⟨(c0, i0), h⟩
set_option maxRecDepth 20000 in
theorem st_knRJ4 (C : lw_At p s m meth c b L xs) : ∃ q : ClassId × (Nat → Nat), u_Kn s RJ4 TJ4 4 q.1 q.2 := by
  obtain ⟨c0, i0, h⟩ := u_known (C := RJ4) (T := TJ4) (N := 4) (n := 4) (st_fix C).2.2.2.2 (show ∀ w ∈ u_ws RJ4 TJ4 4, w ∈ wsL_law by decide +kernel) (C.2.2.2.2.2.1 _ (List.mem_of_getElem? (i := 1402) (by decide +kernel)))
  exact ⟨(c0, i0), h⟩
set_option maxRecDepth 20000 in
theorem st_knRX0 (C : lw_At p s m meth c b L xs) : ∃ q : ClassId × (Nat → Nat), u_Kn s RX0 TX0 2 q.1 q.2 := by
  obtain ⟨c0, i0, h⟩ := u_known (C := RX0) (T := TX0) (N := 2) (n := 2) (st_fix C).2.2.2.2 (show ∀ w ∈ u_ws RX0 TX0 2, w ∈ wsL_law by decide +kernel) (C.2.2.2.2.2.1 _ (List.mem_of_getElem? (i := 206) (by decide +kernel)))
  exact ⟨(c0, i0), h⟩
set_option maxRecDepth 20000 in
theorem st_knRX1 (C : lw_At p s m meth c b L xs) : ∃ q : ClassId × (Nat → Nat), u_Kn s RX1 TX1 10 q.1 q.2 := by
  obtain ⟨c0, i0, h⟩ := u_known (C := RX1) (T := TX1) (N := 10) (n := 10) (st_fix C).2.2.2.2 (show ∀ w ∈ u_ws RX1 TX1 10, w ∈ wsL_law by decide +kernel) (C.2.2.2.2.2.1 _ (List.mem_of_getElem? (i := 221) (by decide +kernel)))
  exact ⟨(c0, i0), h⟩
set_option maxRecDepth 20000 in
theorem st_knRX2 (C : lw_At p s m meth c b L xs) : ∃ q : ClassId × (Nat → Nat), u_Kn s RX2 TX2 4 q.1 q.2 := by
  obtain ⟨c0, i0, h⟩ := u_known (C := RX2) (T := TX2) (N := 4) (n := 4) (st_fix C).2.2.2.2 (show ∀ w ∈ u_ws RX2 TX2 4, w ∈ wsL_law by decide +kernel) (C.2.2.2.2.2.1 _ (List.mem_of_getElem? (i := 326) (by decide +kernel)))
  exact ⟨(c0, i0), h⟩
set_option maxRecDepth 20000 in
theorem st_knRX3 (C : lw_At p s m meth c b L xs) : ∃ q : ClassId × (Nat → Nat), u_Kn s RX3 TX3 9 q.1 q.2 := by
  obtain ⟨c0, i0, h⟩ := u_known (C := RX3) (T := TX3) (N := 9) (n := 9) (st_fix C).2.2.2.2 (show ∀ w ∈ u_ws RX3 TX3 9, w ∈ wsL_law by decide +kernel) (C.2.2.2.2.2.1 _ (List.mem_of_getElem? (i := 276) (by decide +kernel)))
  exact ⟨(c0, i0), h⟩
set_option maxRecDepth 20000 in
theorem st_knRX4 (C : lw_At p s m meth c b L xs) : ∃ q : ClassId × (Nat → Nat), u_Kn s RX4 TX4 4 q.1 q.2 := by
  obtain ⟨c0, i0, h⟩ := u_known (C := RX4) (T := TX4) (N := 4) (n := 4) (st_fix C).2.2.2.2 (show ∀ w ∈ u_ws RX4 TX4 4, w ∈ wsL_law by decide +kernel) (C.2.2.2.2.2.1 _ (List.mem_of_getElem? (i := 129) (by decide +kernel)))
  exact ⟨(c0, i0), h⟩
set_option maxRecDepth 20000 in
theorem st_knRX5 (C : lw_At p s m meth c b L xs) : ∃ q : ClassId × (Nat → Nat), u_Kn s RX5 TX5 7 q.1 q.2 := by
  obtain ⟨c0, i0, h⟩ := u_known (C := RX5) (T := TX5) (N := 7) (n := 7) (st_fix C).2.2.2.2 (show ∀ w ∈ u_ws RX5 TX5 7, w ∈ wsL_law by decide +kernel) (C.2.2.2.2.2.1 _ (List.mem_of_getElem? (i := 135) (by decide +kernel)))
  exact ⟨(c0, i0), h⟩
set_option maxRecDepth 20000 in
theorem st_knRX6 (C : lw_At p s m meth c b L xs) : ∃ q : ClassId × (Nat → Nat), u_Kn s RX6 TX6 2 q.1 q.2 := by
  obtain ⟨c0, i0, h⟩ := u_known (C := RX6) (T := TX6) (N := 2) (n := 2) (st_fix C).2.2.2.2 (show ∀ w ∈ u_ws RX6 TX6 2, w ∈ wsL_law by decide +kernel) (C.2.2.2.2.2.1 _ (List.mem_of_getElem? (i := 263) (by decide +kernel)))
  exact ⟨(c0, i0), h⟩
set_option maxRecDepth 20000 in
theorem st_knRX7 (C : lw_At p s m meth c b L xs) : ∃ q : ClassId × (Nat → Nat), u_Kn s RX7 TX7 10 q.1 q.2 := by
  obtain ⟨c0, i0, h⟩ := u_known (C := RX7) (T := TX7) (N := 10) (n := 10) (st_fix C).2.2.2.2 (show ∀ w ∈ u_ws RX7 TX7 10, w ∈ wsL_law by decide +kernel) (C.2.2.2.2.2.1 _ (List.mem_of_getElem? (i := 119) (by decide +kernel)))
  exact ⟨(c0, i0), h⟩
set_option maxRecDepth 20000 in
theorem st_knRX8 (C : lw_At p s m meth c b L xs) : ∃ q : ClassId × (Nat → Nat), u_Kn s RX8 TX8 6 q.1 q.2 := by
  obtain ⟨c0, i0, h⟩ := u_known (C := RX8) (T := TX8) (N := 6) (n := 6) (st_fix C).2.2.2.2 (show ∀ w ∈ u_ws RX8 TX8 6, w ∈ wsL_law by decide +kernel) (C.2.2.2.2.2.1 _ (List.mem_of_getElem? (i := 1897) (by decide +kernel)))
  exact ⟨(c0, i0), h⟩
set_option maxRecDepth 20000 in
theorem st_knRX9 (C : lw_At p s m meth c b L xs) : ∃ q : ClassId × (Nat → Nat), u_Kn s RX9 TX9 5 q.1 q.2 := by
  obtain ⟨c0, i0, h⟩ := u_known (C := RX9) (T := TX9) (N := 5) (n := 5) (st_fix C).2.2.2.2 (show ∀ w ∈ u_ws RX9 TX9 5, w ∈ wsL_law by decide +kernel) (C.2.2.2.2.2.1 _ (List.mem_of_getElem? (i := 1211) (by decide +kernel)))
  exact ⟨(c0, i0), h⟩
set_option maxRecDepth 20000 in
theorem st_knRX10 (C : lw_At p s m meth c b L xs) : ∃ q : ClassId × (Nat → Nat), u_Kn s RX10 TX10 31 q.1 q.2 := by
  obtain ⟨c0, i0, h⟩ := u_known (C := RX10) (T := TX10) (N := 31) (n := 31) (st_fix C).2.2.2.2 (show ∀ w ∈ u_ws RX10 TX10 31, w ∈ wsL_law by decide +kernel) (C.2.2.2.2.2.1 _ (List.mem_of_getElem? (i := 1204) (by decide +kernel)))
  exact ⟨(c0, i0), h⟩
theorem st_all (C : lw_At p s m meth c b L xs) : ∀ q ∈ vwCl, ∃ w : ClassId × (Nat → Nat), u_Kn s q.1 q.2.1 q.2.2 w.1 w.2 := (List.forall_mem_cons.mpr ⟨st_knRJ0 C, (List.forall_mem_cons.mpr ⟨st_knRJ4 C, (List.forall_mem_cons.mpr ⟨st_knRX0 C, (List.forall_mem_cons.mpr ⟨st_knRX1 C, (List.forall_mem_cons.mpr ⟨st_knRX2 C, (List.forall_mem_cons.mpr ⟨st_knRX3 C, (List.forall_mem_cons.mpr ⟨st_knRX4 C, (List.forall_mem_cons.mpr ⟨st_knRX5 C, (List.forall_mem_cons.mpr ⟨st_knRX6 C, (List.forall_mem_cons.mpr ⟨st_knRX7 C, (List.forall_mem_cons.mpr ⟨st_knRX8 C, (List.forall_mem_cons.mpr ⟨st_knRX9 C, (List.forall_mem_cons.mpr ⟨st_knRX10 C, (fun _ h => absurd h List.not_mem_nil)⟩)⟩)⟩)⟩)⟩)⟩)⟩)⟩)⟩)⟩)⟩)⟩)⟩)
theorem st_D (C : lw_At p s m meth c b L xs) : ∃ D : va_G, ∀ (k : Nat) (q : vw_C), vwCl[k]? = some q → u_Kn s q.1 q.2.1 q.2.2 (D.1 k) (D.2 k) := by
  have hk : ∀ k : Nat, ∃ w : ClassId × (Nat → Nat), ∀ q : vw_C, vwCl[k]? = some q → u_Kn s q.1 q.2.1 q.2.2 w.1 w.2 := by
    intro k
    by_cases h : ∃ q : vw_C, vwCl[k]? = some q
    · obtain ⟨q, hq⟩ := h
      obtain ⟨w, hw⟩ := st_all C q (List.mem_of_getElem? hq)
      refine ⟨w, fun q2 h2 => ?_⟩
      have e : q2 = q := Option.some.inj (h2.symm.trans hq)
      rw [e]
      exact hw
    · obtain ⟨w, -⟩ := st_knRJ0 C
      exact ⟨w, fun q hq => absurd ⟨q, hq⟩ h⟩
  obtain ⟨f, hf⟩ := Classical.axiomOfChoice hk
  exact ⟨(fun k => (f k).1, fun k => (f k).2), hf⟩
theorem st_K (C : lw_At p s m meth c b L xs) : ∃ (D : va_G) (cI cC cL cD cII cTr cTm cIt cB : ClassId), va_K D vwCl (fty cI cC cL cD cII cTr cTm cIt cB) s := by
  obtain ⟨D, hD⟩ := st_D C
  obtain ⟨cI, hcI⟩ := st_arr (ty := .int) (fun _ h => nomatch h) (C.2.2.2.2.2.1 _ (List.mem_of_getElem? (i := 188) (by decide +kernel)))
  obtain ⟨cC, hcC⟩ := st_arr (ty := .char) (fun _ h => nomatch h) (C.2.2.2.2.2.1 _ (List.mem_of_getElem? (i := 187) (by decide +kernel)))
  obtain ⟨cL, hcL⟩ := st_arr (ty := .long) (fun _ h => nomatch h) (C.2.2.2.2.2.1 _ (List.mem_of_getElem? (i := 1987) (by decide +kernel)))
  obtain ⟨cD, hcD⟩ := st_arr (ty := .double) (fun _ h => nomatch h) (C.2.2.2.2.2.1 _ (List.mem_of_getElem? (i := 1988) (by decide +kernel)))
  obtain ⟨cII, hcII⟩ := st_arrA (C.2.2.2.2.2.1 _ (List.mem_of_getElem? (i := 227) (by decide +kernel)))
  obtain ⟨cTr, hcTr⟩ := st_arrO (C := "TreeDiffer$Tree") (C.2.2.2.2.2.1 _ (List.mem_of_getElem? (i := 127) (by decide +kernel)))
  obtain ⟨cTm, hcTm⟩ := st_arrO (C := "TreeDifferModel$Tree") (C.2.2.2.2.2.1 _ (List.mem_of_getElem? (i := 1210) (by decide +kernel)))
  obtain ⟨cIt, hcIt⟩ := st_arrO (C := "TreeDifferModel$Item") (C.2.2.2.2.2.1 _ (List.mem_of_getElem? (i := 1240) (by decide +kernel)))
  obtain ⟨cB, hcB⟩ := st_arr (ty := .byte) (fun _ h => nomatch h) (C.2.2.2.2.2.1 _ (List.mem_of_getElem? (i := 510) (by decide +kernel)))
  refine ⟨D, cI, cC, cL, cD, cII, cTr, cTm, cIt, cB, hD, fun k q hq => ?_⟩
  exact (show ∀ q ∈ fty cI cC cL cD cII cTr cTm cIt cB, ArrOfT s q.1 q.2 ∧ va_RA s q.1 q.2 from (List.forall_mem_cons.mpr ⟨hcI, (List.forall_mem_cons.mpr ⟨hcC, (List.forall_mem_cons.mpr ⟨hcL, (List.forall_mem_cons.mpr ⟨hcD, (List.forall_mem_cons.mpr ⟨hcII, (List.forall_mem_cons.mpr ⟨hcTr, (List.forall_mem_cons.mpr ⟨hcTm, (List.forall_mem_cons.mpr ⟨hcIt, (List.forall_mem_cons.mpr ⟨hcB, (fun _ h => absurd h List.not_mem_nil)⟩)⟩)⟩)⟩)⟩)⟩)⟩)⟩)⟩)) q (List.mem_of_getElem? hq)
def st_L : List (String × Nat × String) := [("TreeDiffer", 75, "the buffer is full"), ("TreeDiffer", 96, "the text is wrong"), ("TreeDiffer", 112, "there was no wrong text"), ("TreeDiffer", 140, "no such character"), ("TreeDiffer", 153, "no such position"), ("TreeDiffer", 166, "the tree is full"), ("TreeDiffer", 174, "the root stays"), ("TreeDiffer", 191, "the key is out of range"), ("TreeDiffer", 193, "the root has no key"), ("TreeDiffer", 203, "a sibling has this key"), ("TreeDiffer", 211, "the value is out of range"), ("TreeDiffer", 216, "the root has no parent"), ("TreeDiffer", 228, "no equal subtree"), ("TreeDiffer", 233, "no subtree of this shape"), ("TreeDiffer", 239, "too many matchings"), ("TreeDiffer", 249, "a deletion has no target"), ("TreeDiffer", 260, "no such node"), ("TreeDiffer", 265, "the node belongs to no pair"), ("TreeDiffer", 290, "there is a conflict"), ("TreeDiffer", 292, "there was no conflict"), ("TreeDiffer", 300, "no such tree"), ("TreeDiffer", 305, "no such label"), ("TreeDiffer", 311, "there is no script"), ("TreeDiffer", 313, "no such operation"), ("TreeDifferModel", 41, "")]
theorem st_hn (C : lw_At p s m meth c b L xs) : ∀ w ∈ flatC (Jvm.Cond.and given_1 narrow_1), w.before #[Value.ref b] s = true := flat_of_before _ C.2.2.2.2.2.2.2.2.2
theorem st_l0 (C : lw_At p s m meth c b L xs) : ∃ a : Nat, vk_R "TreeDiffer" 75 "the buffer is full" a s := by
  have hn := st_hn C
  exact st_lit (C.2.2.2.2.2.1 _ (List.mem_of_getElem? (i := 484) (by decide +kernel))) (hn _ (List.mem_of_getElem? (i := 356) (by decide +kernel)))
theorem st_l1 (C : lw_At p s m meth c b L xs) : ∃ a : Nat, vk_R "TreeDiffer" 96 "the text is wrong" a s := by
  have hn := st_hn C
  exact st_lit (C.2.2.2.2.2.1 _ (List.mem_of_getElem? (i := 585) (by decide +kernel))) (hn _ (List.mem_of_getElem? (i := 394) (by decide +kernel)))
theorem st_l2 (C : lw_At p s m meth c b L xs) : ∃ a : Nat, vk_R "TreeDiffer" 112 "there was no wrong text" a s := by
  have hn := st_hn C
  exact st_lit (C.2.2.2.2.2.1 _ (List.mem_of_getElem? (i := 616) (by decide +kernel))) (hn _ (List.mem_of_getElem? (i := 415) (by decide +kernel)))
theorem st_l3 (C : lw_At p s m meth c b L xs) : ∃ a : Nat, vk_R "TreeDiffer" 140 "no such character" a s := by
  have hn := st_hn C
  exact st_lit (C.2.2.2.2.2.1 _ (List.mem_of_getElem? (i := 679) (by decide +kernel))) (hn _ (List.mem_of_getElem? (i := 464) (by decide +kernel)))
theorem st_l4 (C : lw_At p s m meth c b L xs) : ∃ a : Nat, vk_R "TreeDiffer" 153 "no such position" a s := by
  have hn := st_hn C
  exact st_lit (C.2.2.2.2.2.1 _ (List.mem_of_getElem? (i := 697) (by decide +kernel))) (hn _ (List.mem_of_getElem? (i := 501) (by decide +kernel)))
theorem st_l5 (C : lw_At p s m meth c b L xs) : ∃ a : Nat, vk_R "TreeDiffer" 166 "the tree is full" a s := by
  have hn := st_hn C
  exact st_lit (C.2.2.2.2.2.1 _ (List.mem_of_getElem? (i := 724) (by decide +kernel))) (hn _ (List.mem_of_getElem? (i := 538) (by decide +kernel)))
theorem st_l6 (C : lw_At p s m meth c b L xs) : ∃ a : Nat, vk_R "TreeDiffer" 174 "the root stays" a s := by
  have hn := st_hn C
  exact st_lit (C.2.2.2.2.2.1 _ (List.mem_of_getElem? (i := 743) (by decide +kernel))) (hn _ (List.mem_of_getElem? (i := 558) (by decide +kernel)))
theorem st_l7 (C : lw_At p s m meth c b L xs) : ∃ a : Nat, vk_R "TreeDiffer" 191 "the key is out of range" a s := by
  have hn := st_hn C
  exact st_lit (C.2.2.2.2.2.1 _ (List.mem_of_getElem? (i := 773) (by decide +kernel))) (hn _ (List.mem_of_getElem? (i := 576) (by decide +kernel)))
theorem st_l8 (C : lw_At p s m meth c b L xs) : ∃ a : Nat, vk_R "TreeDiffer" 193 "the root has no key" a s := by
  have hn := st_hn C
  exact st_lit (C.2.2.2.2.2.1 _ (List.mem_of_getElem? (i := 774) (by decide +kernel))) (hn _ (List.mem_of_getElem? (i := 603) (by decide +kernel)))
theorem st_l9 (C : lw_At p s m meth c b L xs) : ∃ a : Nat, vk_R "TreeDiffer" 203 "a sibling has this key" a s := by
  have hn := st_hn C
  exact st_lit (C.2.2.2.2.2.1 _ (List.mem_of_getElem? (i := 776) (by decide +kernel))) (hn _ (List.mem_of_getElem? (i := 626) (by decide +kernel)))
theorem st_l10 (C : lw_At p s m meth c b L xs) : ∃ a : Nat, vk_R "TreeDiffer" 211 "the value is out of range" a s := by
  have hn := st_hn C
  exact st_lit (C.2.2.2.2.2.1 _ (List.mem_of_getElem? (i := 785) (by decide +kernel))) (hn _ (List.mem_of_getElem? (i := 652) (by decide +kernel)))
theorem st_l11 (C : lw_At p s m meth c b L xs) : ∃ a : Nat, vk_R "TreeDiffer" 216 "the root has no parent" a s := by
  have hn := st_hn C
  exact st_lit (C.2.2.2.2.2.1 _ (List.mem_of_getElem? (i := 835) (by decide +kernel))) (hn _ (List.mem_of_getElem? (i := 681) (by decide +kernel)))
theorem st_l12 (C : lw_At p s m meth c b L xs) : ∃ a : Nat, vk_R "TreeDiffer" 228 "no equal subtree" a s := by
  have hn := st_hn C
  exact st_lit (C.2.2.2.2.2.1 _ (List.mem_of_getElem? (i := 878) (by decide +kernel))) (hn _ (List.mem_of_getElem? (i := 707) (by decide +kernel)))
theorem st_l13 (C : lw_At p s m meth c b L xs) : ∃ a : Nat, vk_R "TreeDiffer" 233 "no subtree of this shape" a s := by
  have hn := st_hn C
  exact st_lit (C.2.2.2.2.2.1 _ (List.mem_of_getElem? (i := 887) (by decide +kernel))) (hn _ (List.mem_of_getElem? (i := 727) (by decide +kernel)))
theorem st_l14 (C : lw_At p s m meth c b L xs) : ∃ a : Nat, vk_R "TreeDiffer" 239 "too many matchings" a s := by
  have hn := st_hn C
  exact st_lit (C.2.2.2.2.2.1 _ (List.mem_of_getElem? (i := 944) (by decide +kernel))) (hn _ (List.mem_of_getElem? (i := 755) (by decide +kernel)))
theorem st_l15 (C : lw_At p s m meth c b L xs) : ∃ a : Nat, vk_R "TreeDiffer" 249 "a deletion has no target" a s := by
  have hn := st_hn C
  exact st_lit (C.2.2.2.2.2.1 _ (List.mem_of_getElem? (i := 1063) (by decide +kernel))) (hn _ (List.mem_of_getElem? (i := 798) (by decide +kernel)))
theorem st_l16 (C : lw_At p s m meth c b L xs) : ∃ a : Nat, vk_R "TreeDiffer" 260 "no such node" a s := by
  have hn := st_hn C
  exact st_lit (C.2.2.2.2.2.1 _ (List.mem_of_getElem? (i := 692) (by decide +kernel))) (hn _ (List.mem_of_getElem? (i := 485) (by decide +kernel)))
theorem st_l17 (C : lw_At p s m meth c b L xs) : ∃ a : Nat, vk_R "TreeDiffer" 265 "the node belongs to no pair" a s := by
  have hn := st_hn C
  exact st_lit (C.2.2.2.2.2.1 _ (List.mem_of_getElem? (i := 1071) (by decide +kernel))) (hn _ (List.mem_of_getElem? (i := 826) (by decide +kernel)))
theorem st_l18 (C : lw_At p s m meth c b L xs) : ∃ a : Nat, vk_R "TreeDiffer" 290 "there is a conflict" a s := by
  have hn := st_hn C
  exact st_lit (C.2.2.2.2.2.1 _ (List.mem_of_getElem? (i := 1187) (by decide +kernel))) (hn _ (List.mem_of_getElem? (i := 857) (by decide +kernel)))
theorem st_l19 (C : lw_At p s m meth c b L xs) : ∃ a : Nat, vk_R "TreeDiffer" 292 "there was no conflict" a s := by
  have hn := st_hn C
  exact st_lit (C.2.2.2.2.2.1 _ (List.mem_of_getElem? (i := 1195) (by decide +kernel))) (hn _ (List.mem_of_getElem? (i := 880) (by decide +kernel)))
theorem st_l20 (C : lw_At p s m meth c b L xs) : ∃ a : Nat, vk_R "TreeDiffer" 300 "no such tree" a s := by
  have hn := st_hn C
  exact st_lit (C.2.2.2.2.2.1 _ (List.mem_of_getElem? (i := 533) (by decide +kernel))) (hn _ (List.mem_of_getElem? (i := 378) (by decide +kernel)))
theorem st_l21 (C : lw_At p s m meth c b L xs) : ∃ a : Nat, vk_R "TreeDiffer" 305 "no such label" a s := by
  have hn := st_hn C
  exact st_lit (C.2.2.2.2.2.1 _ (List.mem_of_getElem? (i := 703) (by decide +kernel))) (hn _ (List.mem_of_getElem? (i := 521) (by decide +kernel)))
theorem st_l22 (C : lw_At p s m meth c b L xs) : ∃ a : Nat, vk_R "TreeDiffer" 311 "there is no script" a s := by
  have hn := st_hn C
  exact st_lit (C.2.2.2.2.2.1 _ (List.mem_of_getElem? (i := 665) (by decide +kernel))) (hn _ (List.mem_of_getElem? (i := 442) (by decide +kernel)))
theorem st_l23 (C : lw_At p s m meth c b L xs) : ∃ a : Nat, vk_R "TreeDiffer" 313 "no such operation" a s := by
  have hn := st_hn C
  exact st_lit (C.2.2.2.2.2.1 _ (List.mem_of_getElem? (i := 1048) (by decide +kernel))) (hn _ (List.mem_of_getElem? (i := 777) (by decide +kernel)))
theorem st_l24 (C : lw_At p s m meth c b L xs) : ∃ a : Nat, vk_R "TreeDifferModel" 41 "" a s := by
  have hn := st_hn C
  exact st_lit (C.2.2.2.2.2.1 _ (List.mem_of_getElem? (i := 1237) (by decide +kernel))) (hn _ (List.mem_of_getElem? (i := 905) (by decide +kernel)))
theorem st_ql (C : lw_At p s m meth c b L xs) : ∃ ql : Nat → Nat, ∀ (k : Nat) (q : String × Nat × String), st_L[k]? = some q → vk_R q.1 q.2.1 q.2.2 (ql k) s := by
  have hm : ∀ q ∈ st_L, ∃ a : Nat, vk_R q.1 q.2.1 q.2.2 a s := (List.forall_mem_cons.mpr ⟨st_l0 C, (List.forall_mem_cons.mpr ⟨st_l1 C, (List.forall_mem_cons.mpr ⟨st_l2 C, (List.forall_mem_cons.mpr ⟨st_l3 C, (List.forall_mem_cons.mpr ⟨st_l4 C, (List.forall_mem_cons.mpr ⟨st_l5 C, (List.forall_mem_cons.mpr ⟨st_l6 C, (List.forall_mem_cons.mpr ⟨st_l7 C, (List.forall_mem_cons.mpr ⟨st_l8 C, (List.forall_mem_cons.mpr ⟨st_l9 C, (List.forall_mem_cons.mpr ⟨st_l10 C, (List.forall_mem_cons.mpr ⟨st_l11 C, (List.forall_mem_cons.mpr ⟨st_l12 C, (List.forall_mem_cons.mpr ⟨st_l13 C, (List.forall_mem_cons.mpr ⟨st_l14 C, (List.forall_mem_cons.mpr ⟨st_l15 C, (List.forall_mem_cons.mpr ⟨st_l16 C, (List.forall_mem_cons.mpr ⟨st_l17 C, (List.forall_mem_cons.mpr ⟨st_l18 C, (List.forall_mem_cons.mpr ⟨st_l19 C, (List.forall_mem_cons.mpr ⟨st_l20 C, (List.forall_mem_cons.mpr ⟨st_l21 C, (List.forall_mem_cons.mpr ⟨st_l22 C, (List.forall_mem_cons.mpr ⟨st_l23 C, (List.forall_mem_cons.mpr ⟨st_l24 C, (fun _ h => absurd h List.not_mem_nil)⟩)⟩)⟩)⟩)⟩)⟩)⟩)⟩)⟩)⟩)⟩)⟩)⟩)⟩)⟩)⟩)⟩)⟩)⟩)⟩)⟩)⟩)⟩)⟩)⟩)
  have hk : ∀ k : Nat, ∃ a : Nat, ∀ q : String × Nat × String, st_L[k]? = some q → vk_R q.1 q.2.1 q.2.2 a s := by
    intro k
    by_cases h : ∃ q : String × Nat × String, st_L[k]? = some q
    · obtain ⟨q, hq⟩ := h
      obtain ⟨w, hw⟩ := hm q (List.mem_of_getElem? hq)
      refine ⟨w, fun q2 h2 => ?_⟩
      have e : q2 = q := Option.some.inj (h2.symm.trans hq)
      rw [e]
      exact hw
    · exact ⟨0, fun q hq => absurd ⟨q, hq⟩ h⟩
  exact Classical.axiomOfChoice hk
theorem st_lits {ql : Nat → Nat} (h : ∀ (k : Nat) (q : String × Nat × String), st_L[k]? = some q → vk_R q.1 q.2.1 q.2.2 (ql k) s) : ∀ q ∈ flit ql, vk_R q.1 q.2.1 q.2.2.1 q.2.2.2 s := (List.forall_mem_cons.mpr ⟨h 0 ("TreeDiffer", 75, "the buffer is full") rfl, (List.forall_mem_cons.mpr ⟨h 1 ("TreeDiffer", 96, "the text is wrong") rfl, (List.forall_mem_cons.mpr ⟨h 2 ("TreeDiffer", 112, "there was no wrong text") rfl, (List.forall_mem_cons.mpr ⟨h 3 ("TreeDiffer", 140, "no such character") rfl, (List.forall_mem_cons.mpr ⟨h 4 ("TreeDiffer", 153, "no such position") rfl, (List.forall_mem_cons.mpr ⟨h 5 ("TreeDiffer", 166, "the tree is full") rfl, (List.forall_mem_cons.mpr ⟨h 6 ("TreeDiffer", 174, "the root stays") rfl, (List.forall_mem_cons.mpr ⟨h 7 ("TreeDiffer", 191, "the key is out of range") rfl, (List.forall_mem_cons.mpr ⟨h 8 ("TreeDiffer", 193, "the root has no key") rfl, (List.forall_mem_cons.mpr ⟨h 9 ("TreeDiffer", 203, "a sibling has this key") rfl, (List.forall_mem_cons.mpr ⟨h 10 ("TreeDiffer", 211, "the value is out of range") rfl, (List.forall_mem_cons.mpr ⟨h 11 ("TreeDiffer", 216, "the root has no parent") rfl, (List.forall_mem_cons.mpr ⟨h 12 ("TreeDiffer", 228, "no equal subtree") rfl, (List.forall_mem_cons.mpr ⟨h 13 ("TreeDiffer", 233, "no subtree of this shape") rfl, (List.forall_mem_cons.mpr ⟨h 14 ("TreeDiffer", 239, "too many matchings") rfl, (List.forall_mem_cons.mpr ⟨h 15 ("TreeDiffer", 249, "a deletion has no target") rfl, (List.forall_mem_cons.mpr ⟨h 16 ("TreeDiffer", 260, "no such node") rfl, (List.forall_mem_cons.mpr ⟨h 17 ("TreeDiffer", 265, "the node belongs to no pair") rfl, (List.forall_mem_cons.mpr ⟨h 18 ("TreeDiffer", 290, "there is a conflict") rfl, (List.forall_mem_cons.mpr ⟨h 19 ("TreeDiffer", 292, "there was no conflict") rfl, (List.forall_mem_cons.mpr ⟨h 20 ("TreeDiffer", 300, "no such tree") rfl, (List.forall_mem_cons.mpr ⟨h 21 ("TreeDiffer", 305, "no such label") rfl, (List.forall_mem_cons.mpr ⟨h 22 ("TreeDiffer", 311, "there is no script") rfl, (List.forall_mem_cons.mpr ⟨h 23 ("TreeDiffer", 313, "no such operation") rfl, (List.forall_mem_cons.mpr ⟨h 24 ("TreeDifferModel", 41, "") rfl, (fun _ h => absurd h List.not_mem_nil)⟩)⟩)⟩)⟩)⟩)⟩)⟩)⟩)⟩)⟩)⟩)⟩)⟩)⟩)⟩)⟩)⟩)⟩)⟩)⟩)⟩)⟩)⟩)⟩)⟩)
theorem st_ao (C : lw_At p s m meth c b L xs) : ∀ x ∈ fen2.1, va_AO x s := (List.forall_mem_cons.mpr ⟨va_AO.of (C.2.2.2.2.2.1 _ (List.mem_of_getElem? (i := 127) (by decide +kernel))), (List.forall_mem_cons.mpr ⟨va_AO.of (C.2.2.2.2.2.1 _ (List.mem_of_getElem? (i := 1210) (by decide +kernel))), (List.forall_mem_cons.mpr ⟨va_AO.of (C.2.2.2.2.2.1 _ (List.mem_of_getElem? (i := 1240) (by decide +kernel))), (fun _ h => absurd h List.not_mem_nil)⟩)⟩)⟩)
theorem st_nf (C : lw_At p s m meth c b L xs) : ∀ q ∈ fen2.2.1, va_Nw (.fieldLinkNest q.1 q.2.1 q.2.2.1 q.2.2.2.1 q.2.2.2.2.1 q.2.2.2.2.2) s := (List.forall_mem_cons.mpr ⟨va_Nw.of rfl (C.2.2.2.2.2.1 _ (List.mem_of_getElem? (i := 1223) (by decide +kernel))), (List.forall_mem_cons.mpr ⟨va_Nw.of rfl (C.2.2.2.2.2.1 _ (List.mem_of_getElem? (i := 1217) (by decide +kernel))), (List.forall_mem_cons.mpr ⟨va_Nw.of rfl (C.2.2.2.2.2.1 _ (List.mem_of_getElem? (i := 1219) (by decide +kernel))), (List.forall_mem_cons.mpr ⟨va_Nw.of rfl (C.2.2.2.2.2.1 _ (List.mem_of_getElem? (i := 1221) (by decide +kernel))), (List.forall_mem_cons.mpr ⟨va_Nw.of rfl (C.2.2.2.2.2.1 _ (List.mem_of_getElem? (i := 1225) (by decide +kernel))), (List.forall_mem_cons.mpr ⟨va_Nw.of rfl (C.2.2.2.2.2.1 _ (List.mem_of_getElem? (i := 1903) (by decide +kernel))), (List.forall_mem_cons.mpr ⟨va_Nw.of rfl (C.2.2.2.2.2.1 _ (List.mem_of_getElem? (i := 1905) (by decide +kernel))), (List.forall_mem_cons.mpr ⟨va_Nw.of rfl (C.2.2.2.2.2.1 _ (List.mem_of_getElem? (i := 1906) (by decide +kernel))), (List.forall_mem_cons.mpr ⟨va_Nw.of rfl (C.2.2.2.2.2.1 _ (List.mem_of_getElem? (i := 1908) (by decide +kernel))), (List.forall_mem_cons.mpr ⟨va_Nw.of rfl (C.2.2.2.2.2.1 _ (List.mem_of_getElem? (i := 1912) (by decide +kernel))), (List.forall_mem_cons.mpr ⟨va_Nw.of rfl (C.2.2.2.2.2.1 _ (List.mem_of_getElem? (i := 1910) (by decide +kernel))), (fun _ h => absurd h List.not_mem_nil)⟩)⟩)⟩)⟩)⟩)⟩)⟩)⟩)⟩)⟩)⟩)
theorem st_nm (C : lw_At p s m meth c b L xs) : ∀ q ∈ fen2.2.2.1, va_Nw (.methodLinkNest q.1 q.2.1 q.2.2.1 q.2.2.2) s := (List.forall_mem_cons.mpr ⟨va_Nw.of rfl (C.2.2.2.2.2.1 _ (List.mem_of_getElem? (i := 130) (by decide +kernel))), (List.forall_mem_cons.mpr ⟨va_Nw.of rfl (C.2.2.2.2.2.1 _ (List.mem_of_getElem? (i := 207) (by decide +kernel))), (List.forall_mem_cons.mpr ⟨va_Nw.of rfl (C.2.2.2.2.2.1 _ (List.mem_of_getElem? (i := 222) (by decide +kernel))), (List.forall_mem_cons.mpr ⟨va_Nw.of rfl (C.2.2.2.2.2.1 _ (List.mem_of_getElem? (i := 264) (by decide +kernel))), (List.forall_mem_cons.mpr ⟨va_Nw.of rfl (C.2.2.2.2.2.1 _ (List.mem_of_getElem? (i := 277) (by decide +kernel))), (List.forall_mem_cons.mpr ⟨va_Nw.of rfl (C.2.2.2.2.2.1 _ (List.mem_of_getElem? (i := 327) (by decide +kernel))), (List.forall_mem_cons.mpr ⟨va_Nw.of rfl (C.2.2.2.2.2.1 _ (List.mem_of_getElem? (i := 934) (by decide +kernel))), (List.forall_mem_cons.mpr ⟨va_Nw.of rfl (C.2.2.2.2.2.1 _ (List.mem_of_getElem? (i := 332) (by decide +kernel))), (List.forall_mem_cons.mpr ⟨va_Nw.of rfl (C.2.2.2.2.2.1 _ (List.mem_of_getElem? (i := 1125) (by decide +kernel))), (List.forall_mem_cons.mpr ⟨va_Nw.of rfl (C.2.2.2.2.2.1 _ (List.mem_of_getElem? (i := 552) (by decide +kernel))), (List.forall_mem_cons.mpr ⟨va_Nw.of rfl (C.2.2.2.2.2.1 _ (List.mem_of_getElem? (i := 566) (by decide +kernel))), (List.forall_mem_cons.mpr ⟨va_Nw.of rfl (C.2.2.2.2.2.1 _ (List.mem_of_getElem? (i := 573) (by decide +kernel))), (List.forall_mem_cons.mpr ⟨va_Nw.of rfl (C.2.2.2.2.2.1 _ (List.mem_of_getElem? (i := 391) (by decide +kernel))), (List.forall_mem_cons.mpr ⟨va_Nw.of rfl (C.2.2.2.2.2.1 _ (List.mem_of_getElem? (i := 394) (by decide +kernel))), (List.forall_mem_cons.mpr ⟨va_Nw.of rfl (C.2.2.2.2.2.1 _ (List.mem_of_getElem? (i := 397) (by decide +kernel))), (List.forall_mem_cons.mpr ⟨va_Nw.of rfl (C.2.2.2.2.2.1 _ (List.mem_of_getElem? (i := 962) (by decide +kernel))), (List.forall_mem_cons.mpr ⟨va_Nw.of rfl (C.2.2.2.2.2.1 _ (List.mem_of_getElem? (i := 956) (by decide +kernel))), (List.forall_mem_cons.mpr ⟨va_Nw.of rfl (C.2.2.2.2.2.1 _ (List.mem_of_getElem? (i := 1714) (by decide +kernel))), (List.forall_mem_cons.mpr ⟨va_Nw.of rfl (C.2.2.2.2.2.1 _ (List.mem_of_getElem? (i := 1212) (by decide +kernel))), (List.forall_mem_cons.mpr ⟨va_Nw.of rfl (C.2.2.2.2.2.1 _ (List.mem_of_getElem? (i := 1241) (by decide +kernel))), (List.forall_mem_cons.mpr ⟨va_Nw.of rfl (C.2.2.2.2.2.1 _ (List.mem_of_getElem? (i := 1381) (by decide +kernel))), (List.forall_mem_cons.mpr ⟨va_Nw.of rfl (C.2.2.2.2.2.1 _ (List.mem_of_getElem? (i := 1389) (by decide +kernel))), (List.forall_mem_cons.mpr ⟨va_Nw.of rfl (C.2.2.2.2.2.1 _ (List.mem_of_getElem? (i := 1561) (by decide +kernel))), (List.forall_mem_cons.mpr ⟨va_Nw.of rfl (C.2.2.2.2.2.1 _ (List.mem_of_getElem? (i := 1565) (by decide +kernel))), (List.forall_mem_cons.mpr ⟨va_Nw.of rfl (C.2.2.2.2.2.1 _ (List.mem_of_getElem? (i := 1718) (by decide +kernel))), (List.forall_mem_cons.mpr ⟨va_Nw.of rfl (C.2.2.2.2.2.1 _ (List.mem_of_getElem? (i := 1722) (by decide +kernel))), (List.forall_mem_cons.mpr ⟨va_Nw.of rfl (C.2.2.2.2.2.1 _ (List.mem_of_getElem? (i := 1779) (by decide +kernel))), (List.forall_mem_cons.mpr ⟨va_Nw.of rfl (C.2.2.2.2.2.1 _ (List.mem_of_getElem? (i := 1898) (by decide +kernel))), (List.forall_mem_cons.mpr ⟨va_Nw.of rfl (C.2.2.2.2.2.1 _ (List.mem_of_getElem? (i := 1926) (by decide +kernel))), (List.forall_mem_cons.mpr ⟨va_Nw.of rfl (C.2.2.2.2.2.1 _ (List.mem_of_getElem? (i := 1942) (by decide +kernel))), (List.forall_mem_cons.mpr ⟨va_Nw.of rfl (C.2.2.2.2.2.1 _ (List.mem_of_getElem? (i := 1958) (by decide +kernel))), (List.forall_mem_cons.mpr ⟨va_Nw.of rfl (C.2.2.2.2.2.1 _ (List.mem_of_getElem? (i := 1966) (by decide +kernel))), (fun _ h => absurd h List.not_mem_nil)⟩)⟩)⟩)⟩)⟩)⟩)⟩)⟩)⟩)⟩)⟩)⟩)⟩)⟩)⟩)⟩)⟩)⟩)⟩)⟩)⟩)⟩)⟩)⟩)⟩)⟩)⟩)⟩)⟩)⟩)⟩)⟩)
theorem st_ca (C : lw_At p s m meth c b L xs) : ∀ q ∈ fen2.2.2.2.1, va_Nw (.castable q.1 q.2) s := (List.forall_mem_cons.mpr ⟨va_Nw.of rfl (C.2.2.2.2.2.1 _ (List.mem_of_getElem? (i := 443) (by decide +kernel))), (List.forall_mem_cons.mpr ⟨va_Nw.of rfl (C.2.2.2.2.2.1 _ (List.mem_of_getElem? (i := 578) (by decide +kernel))), (List.forall_mem_cons.mpr ⟨va_Nw.of rfl (C.2.2.2.2.2.1 _ (List.mem_of_getElem? (i := 526) (by decide +kernel))), (List.forall_mem_cons.mpr ⟨va_Nw.of rfl (C.2.2.2.2.2.1 _ (List.mem_of_getElem? (i := 609) (by decide +kernel))), (List.forall_mem_cons.mpr ⟨va_Nw.of rfl (C.2.2.2.2.2.1 _ (List.mem_of_getElem? (i := 736) (by decide +kernel))), (fun _ h => absurd h List.not_mem_nil)⟩)⟩)⟩)⟩)⟩)
theorem st_de (C : lw_At p s m meth c b L xs) : ∀ q ∈ fen2.2.2.2.2.1, va_Nw (.declares q) s := (List.forall_mem_cons.mpr ⟨va_Nw.of rfl (C.2.2.2.2.2.1 _ (List.mem_of_getElem? (i := 445) (by decide +kernel))), (List.forall_mem_cons.mpr ⟨va_Nw.of rfl (C.2.2.2.2.2.1 _ (List.mem_of_getElem? (i := 447) (by decide +kernel))), (List.forall_mem_cons.mpr ⟨va_Nw.of rfl (C.2.2.2.2.2.1 _ (List.mem_of_getElem? (i := 449) (by decide +kernel))), (fun _ h => absurd h List.not_mem_nil)⟩)⟩)⟩)
theorem st_nc (C : lw_At p s m meth c b L xs) : ∀ q ∈ fen2.2.2.2.2.2, va_Nc q.1 q.2 s := by
  have hn := st_hn C
  exact (List.forall_mem_cons.mpr ⟨va_Nc.of (hn _ (List.mem_of_getElem? (i := 261) (by decide +kernel))), (List.forall_mem_cons.mpr ⟨va_Nc.of (hn _ (List.mem_of_getElem? (i := 244) (by decide +kernel))), (List.forall_mem_cons.mpr ⟨va_Nc.of (hn _ (List.mem_of_getElem? (i := 278) (by decide +kernel))), (List.forall_mem_cons.mpr ⟨va_Nc.of (hn _ (List.mem_of_getElem? (i := 295) (by decide +kernel))), (List.forall_mem_cons.mpr ⟨va_Nc.of (hn _ (List.mem_of_getElem? (i := 228) (by decide +kernel))), (List.forall_mem_cons.mpr ⟨va_Nc.of (hn _ (List.mem_of_getElem? (i := 245) (by decide +kernel))), (List.forall_mem_cons.mpr ⟨va_Nc.of (hn _ (List.mem_of_getElem? (i := 280) (by decide +kernel))), (List.forall_mem_cons.mpr ⟨va_Nc.of (hn _ (List.mem_of_getElem? (i := 297) (by decide +kernel))), (List.forall_mem_cons.mpr ⟨va_Nc.of (hn _ (List.mem_of_getElem? (i := 227) (by decide +kernel))), (List.forall_mem_cons.mpr ⟨va_Nc.of (hn _ (List.mem_of_getElem? (i := 262) (by decide +kernel))), (List.forall_mem_cons.mpr ⟨va_Nc.of (hn _ (List.mem_of_getElem? (i := 279) (by decide +kernel))), (List.forall_mem_cons.mpr ⟨va_Nc.of (hn _ (List.mem_of_getElem? (i := 296) (by decide +kernel))), (List.forall_mem_cons.mpr ⟨va_Nc.of (hn _ (List.mem_of_getElem? (i := 229) (by decide +kernel))), (List.forall_mem_cons.mpr ⟨va_Nc.of (hn _ (List.mem_of_getElem? (i := 263) (by decide +kernel))), (List.forall_mem_cons.mpr ⟨va_Nc.of (hn _ (List.mem_of_getElem? (i := 246) (by decide +kernel))), (List.forall_mem_cons.mpr ⟨va_Nc.of (hn _ (List.mem_of_getElem? (i := 298) (by decide +kernel))), (List.forall_mem_cons.mpr ⟨va_Nc.of (hn _ (List.mem_of_getElem? (i := 232) (by decide +kernel))), (List.forall_mem_cons.mpr ⟨va_Nc.of (hn _ (List.mem_of_getElem? (i := 266) (by decide +kernel))), (List.forall_mem_cons.mpr ⟨va_Nc.of (hn _ (List.mem_of_getElem? (i := 249) (by decide +kernel))), (List.forall_mem_cons.mpr ⟨va_Nc.of (hn _ (List.mem_of_getElem? (i := 283) (by decide +kernel))), (fun _ h => absurd h List.not_mem_nil)⟩)⟩)⟩)⟩)⟩)⟩)⟩)⟩)⟩)⟩)⟩)⟩)⟩)⟩)⟩)⟩)⟩)⟩)⟩)⟩)
theorem st_E (C : lw_At p s m meth c b L xs) : ∃ ql : Nat → Nat, fE s.heap.size (fen ql) s := by
  have hn := st_hn C
  obtain ⟨ql, hq⟩ := st_ql C
  have hA : ∀ a : Nat, a < s.heap.size → ¬ fA s.heap.size a := fun a h => Nat.not_le.mpr h
  have hao : va_AOA .int s := (show (Cond.arrayOver (.array .int)).before #[Value.ref b] s = true from (C.2.2.2.2.2.1 _ (List.mem_of_getElem? (i := 227) (by decide +kernel))))
  refine ⟨ql, vx_Zqof (C.2.2.2.2.2.1 _ (List.mem_of_getElem? (i := 468) (by decide +kernel))) (C.2.2.2.2.2.1 _ (List.mem_of_getElem? (i := 97) (by decide +kernel))) (hn _ (List.mem_of_getElem? (i := 4) (by decide +kernel))) hA, vx_Zqof (C.2.2.2.2.2.1 _ (List.mem_of_getElem? (i := 470) (by decide +kernel))) (C.2.2.2.2.2.1 _ (List.mem_of_getElem? (i := 97) (by decide +kernel))) (hn _ (List.mem_of_getElem? (i := 5) (by decide +kernel))) hA, st_lits hq, st_ao C, st_nf C, st_nm C, st_ca C, st_de C, st_nc C, hao, ?_⟩
  exact ⟨va_Zof (C.2.2.2.2.2.1 _ (List.mem_of_getElem? (i := 1411) (by decide +kernel))) (C.2.2.2.2.2.1 _ (List.mem_of_getElem? (i := 107) (by decide +kernel))) (va_eqt (hn _ (List.mem_of_getElem? (i := 6) (by decide +kernel)))) hA, st_old (hq 24 ("TreeDifferModel", 41, "") rfl) (hn _ (List.mem_of_getElem? (i := 905) (by decide +kernel))) (hn _ (List.mem_of_getElem? (i := 906) (by decide +kernel))) (hn _ (List.mem_of_getElem? (i := 907) (by decide +kernel))) (hn _ (List.mem_of_getElem? (i := 908) (by decide +kernel))) hA⟩
end ST1
theorem dL_law_37 : decode cL_law 37 = .ok (.aload_n 0, 1) := by decide +kernel
theorem dL_law_38 : decode cL_law 38 = .ok (.iload 5, 2) := by decide +kernel
theorem dL_law_40 : decode cL_law 40 = .ok (.iaload, 1) := by decide +kernel
theorem dL_law_41 : decode cL_law 41 = .ok (.bipush 63, 2) := by decide +kernel
theorem dL_law_43 : decode cL_law 43 = .ok (.iand, 1) := by decide +kernel
theorem dL_law_44 : decode cL_law 44 = .ok (.tableswitch 2606 0 38 #[172, 230, 286, 330, 386, 430, 486, 580, 648, 730, 810, 890, 958, 1014, 1082, 1150, 1218, 1286, 1354, 1422, 1490, 1589, 1669, 1749, 1817, 1885, 1974, 2042, 2086, 2142, 2198, 2254, 2310, 2354, 2398, 2449, 2505, 2549, 2593], 172) := by decide +kernel
variable {l : Launch} {N0 : Nat} {D : va_G} {cI cC cL cD cII cTr cTm cIt cB : ClassId} {F : Nat → Option va_E} {ql : Nat → Nat}
theorem case_def {p : Program} {e : Env} {s : State} {m : MethodId} {below : List Frame} {meth : Method} {c : Code} {b : Nat} {xs : Nat → Int32} {H : Heap} {locs : List Loc} {ls : Array Slot} {n : Nat} {a1 a2 a3 a4 : Int32} (S : CallFix p m c cL_law 9 s #[.ref b] wsL_law "TreeDifferLaw") (hr : meth.sig.returnType = ret) (hlocks : meth.locks = false) (hst : l.stackTraces = false) (hX : va_X b 5 xs s s.heap) (hbl : b < s.heap.size ∧ b < N0) (hN : s.heap.size = N0) (hn : N0 + 231 ≤ n) (hx1 : xs 1 = a1) (hx2 : xs 2 = a2) (hx3 : xs 3 = a3) (hx4 : xs 4 = a4)  (hG : fG N0 D vwCl (fty cI cC cL cD cII cTr cTm cIt cB) (fen ql) s F n H locs) (hl : lv_has ls 9 [(0, .ref b), (1, .ref N0), (2, .ref (N0 + 164)), (3, .ref (N0 + 229)), (4, .ref (N0 + 230)), (5, .int 0)]) : W p l e { frames := 2048, cells := 600002, slots := 7302232, locals := 84000 } s m #[.ref b] below meth c H locs 231 4980 (lw_Z below #[.ref b] s) (F0 m 2650 ls []) := by
  refine lv_iinc (v := 5) (lv' := [(5, .int 5), (0, .ref b), (1, .ref N0), (2, .ref (N0 + 164)), (3, .ref (N0 + 229)), (4, .ref (N0 + 230))]) S.1 S.2.1 dL_law_2650 hl (k := 5) rfl (by decide) (by decide) rfl (fun ls hl => ?_)
  refine lv_goto (tgt := 28) S.1 S.2.1 dL_law_2653 (by decide) ?_
  refine lv_iload S.1 S.2.1 dL_law_28 (lv_at hl 0 rfl) ?_
  refine lv_aload_n S.1 S.2.1 dL_law_30 rfl (lv_at hl 1 rfl) ?_
  refine gx_slen (v := 5) S hG hX hbl rfl dL_law_31 ?_
  refine lv_iconst (v := 5) S.1 S.2.1 dL_law_32 (by decide) ?_
  refine lv_isub S.1 S.2.1 dL_law_33 ?_
  refine fx_topi (y := 0) (by decide) ?_
  refine lv_icmp_gt (tgt := 2656) S.1 S.2.1 dL_law_34 (by decide) (fun _ => ?_) (fun c => absurd (by decide) c)
  refine lv_iconst (v := 1) S.1 S.2.1 dL_law_2656 (by decide) ?_
  refine va_forget (fun q hq => by rw [hN]; exact hG.2.1.2.2 q hq) ?_
  refine W.widen (k := 600002) (n := 7302232) (by decide) (by decide) ?_
  exact lw_ret (d0 := s.drawn) (Drawn.sameBut.refl _ _) S.1 S.2.1 hr hlocks dL_law_2657
theorem st_and (x : Int32) : 0 ≤ (x &&& 63).toInt ∧ (x &&& 63).toInt ≤ 63 := by
  have h63 : (63 : Int32).toBitVec.msb = false := by decide
  have h : (x &&& 63).toBitVec.msb = false := by
    rw [Int32.toBitVec_and, BitVec.msb_and, h63, Bool.and_false]
  have h2 : (x &&& 63).toInt = ((x &&& 63).toBitVec.toNat : Int) := BitVec.toInt_eq_toNat_of_msb h
  have h3 : (x &&& 63).toBitVec.toNat ≤ 63 := by
    rw [Int32.toBitVec_and, BitVec.toNat_and]
    exact Nat.le_trans Nat.and_le_right (by decide)
  rw [h2]
  exact ⟨Int.natCast_nonneg _, Int.ofNat_le.mpr h3⟩
theorem st_ofInt {x : Int32} {k : Int} (h : x.toInt = k) (v : Int32) (hv : v.toInt = k) : x = v := Int32.toInt_inj.mp (h.trans hv.symm)
set_option maxHeartbeats 4000000 in
theorem whole_start {p : Program} {e : Env} {s : State} {m : MethodId} {below : List Frame} {meth : Method} {c : Code} (l : Launch) (hflags : l.flags = flags0) {b L : Nat} {xs : Nat → Int32} (hL : L ≤ 5) (C0 : lw_At p s m meth c b L xs) : W p l e room_1 s m #[Value.ref b] below meth c s.heap [] 0 0 (lw_Z below #[Value.ref b] s) (entryFrame m ([Value.ref b] : List Value).toArray 9) := by
  have hst : l.stackTraces = false := by
    unfold Launch.stackTraces
    rw [hflags]
    decide +kernel
  obtain ⟨D, cI, cC, cL, cD, cII, cTr, cTm, cIt, cB, hK⟩ := st_K C0
  obtain ⟨ql, hE⟩ := st_E C0
  have S := st_fix C0
  obtain ⟨hx, hb, hr, hml, hown, hts, hX, hbl, hlocks, hgv⟩ := C0
  have hb2 : b < s.heap.size ∧ b < s.heap.size := ⟨hbl, hbl⟩
  have hG : fG s.heap.size D vwCl (fty cI cC cL cD cII cTr cTm cIt cB) (fen ql) s (fun _ => none) s.heap.size s.heap [] := ⟨⟨rfl, Nat.le_refl _, fun a e h => by cases h⟩, va_S.rf, hK, hE⟩
  have hl := lv_entry ([.ref b]) (n := 9) (Nat.le_of_ble_eq_true rfl)
  rw [lg_entry_eq]
  generalize (lg_sl ([.ref b]) ++ List.replicate (9 - (lg_sl ([.ref b])).length) Slot.unset).toArray = ls at hl ⊢
  have hl : lv_has ls 9 [(0, .ref b)] := hl
  refine law_head (N0 := s.heap.size) (n := s.heap.size) S (Nat.le_refl _) hG hl (fun H locs ls hG hl => ?_)
  clear hE
  refine lv_iload S.1 S.2.1 dL_law_28 (lv_at hl 0 rfl) ?_
  refine lv_aload_n S.1 S.2.1 dL_law_30 rfl (lv_at hl 5 rfl) ?_
  refine gx_slen (v := Int32.ofNat L) S hG hX hb2 rfl dL_law_31 ?_
  refine lv_iconst (v := 5) S.1 S.2.1 dL_law_32 (by decide) ?_
  refine lv_isub S.1 S.2.1 dL_law_33 ?_
  by_cases hL5 : L = 5
  · subst hL5
    refine lv_icmp_gt (tgt := 2656) S.1 S.2.1 dL_law_34 (by decide) (fun h => absurd h (by decide)) (fun _ => ?_)
    refine lv_aload_n S.1 S.2.1 dL_law_37 rfl (lv_at hl 5 rfl) ?_
    refine lv_iload S.1 S.2.1 dL_law_38 (lv_at hl 0 rfl) ?_
    refine gx_sld (v := xs 0) S hG hX hb2 (fin_l (by decide)) rfl dL_law_40 ?_
    refine lv_bipush (v := 63) S.1 S.2.1 dL_law_41 (by decide) ?_
    refine lv_iand S.1 S.2.1 dL_law_43 ?_
    have hl : lv_has ls 9 [(0, .ref b), (1, .ref s.heap.size), (2, .ref (s.heap.size + 164)), (3, .ref (s.heap.size + 229)), (4, .ref (s.heap.size + 230)), (5, .int 0)] := lv_sub hl [5, 4, 3, 2, 1, 0] rfl
    obtain ⟨hx0, hx63⟩ := st_and (xs 0)
    generalize xs 0 &&& 63 = x at hx0 hx63
    by_cases h38 : x.toInt ≤ 38
    · rcases (show x.toInt = 0 ∨ x.toInt = 1 ∨ x.toInt = 2 ∨ x.toInt = 3 ∨ x.toInt = 4 ∨ x.toInt = 5 ∨ x.toInt = 6 ∨ x.toInt = 7 ∨ x.toInt = 8 ∨ x.toInt = 9 ∨ x.toInt = 10 ∨ x.toInt = 11 ∨ x.toInt = 12 ∨ x.toInt = 13 ∨ x.toInt = 14 ∨ x.toInt = 15 ∨ x.toInt = 16 ∨ x.toInt = 17 ∨ x.toInt = 18 ∨ x.toInt = 19 ∨ x.toInt = 20 ∨ x.toInt = 21 ∨ x.toInt = 22 ∨ x.toInt = 23 ∨ x.toInt = 24 ∨ x.toInt = 25 ∨ x.toInt = 26 ∨ x.toInt = 27 ∨ x.toInt = 28 ∨ x.toInt = 29 ∨ x.toInt = 30 ∨ x.toInt = 31 ∨ x.toInt = 32 ∨ x.toInt = 33 ∨ x.toInt = 34 ∨ x.toInt = 35 ∨ x.toInt = 36 ∨ x.toInt = 37 ∨ x.toInt = 38 by omega) with hk | hk | hk | hk | hk | hk | hk | hk | hk | hk | hk | hk | hk | hk | hk | hk | hk | hk | hk | hk | hk | hk | hk | hk | hk | hk | hk | hk | hk | hk | hk | hk | hk | hk | hk | hk | hk | hk | hk
      · obtain rfl := st_ofInt hk 0 (by decide)
        refine lv_tableIn (tgt := 216) S.1 S.2.1 dL_law_44 (by decide) (by decide) (off := 172) (by decide) (by decide) ?_
        exact case_0 S hr hlocks hst hX hb2 rfl (Nat.le_refl _) rfl rfl rfl rfl lc_L hG hl
      · obtain rfl := st_ofInt hk 1 (by decide)
        refine lv_tableIn (tgt := 274) S.1 S.2.1 dL_law_44 (by decide) (by decide) (off := 230) (by decide) (by decide) ?_
        exact case_1 S hr hlocks hst hX hb2 rfl (Nat.le_refl _) rfl rfl rfl rfl lc_L hG hl
      · obtain rfl := st_ofInt hk 2 (by decide)
        refine lv_tableIn (tgt := 330) S.1 S.2.1 dL_law_44 (by decide) (by decide) (off := 286) (by decide) (by decide) ?_
        exact case_2 S hr hlocks hst hX hb2 rfl (Nat.le_refl _) rfl rfl rfl rfl lc_L hG hl
      · obtain rfl := st_ofInt hk 3 (by decide)
        refine lv_tableIn (tgt := 374) S.1 S.2.1 dL_law_44 (by decide) (by decide) (off := 330) (by decide) (by decide) ?_
        exact case_3 S hr hlocks hst hX hb2 rfl (Nat.le_refl _) rfl rfl rfl rfl lc_L hG hl
      · obtain rfl := st_ofInt hk 4 (by decide)
        refine lv_tableIn (tgt := 430) S.1 S.2.1 dL_law_44 (by decide) (by decide) (off := 386) (by decide) (by decide) ?_
        exact case_4 S hr hlocks hst hX hb2 rfl (Nat.le_refl _) rfl rfl rfl rfl lc_L hG hl
      · obtain rfl := st_ofInt hk 5 (by decide)
        refine lv_tableIn (tgt := 474) S.1 S.2.1 dL_law_44 (by decide) (by decide) (off := 430) (by decide) (by decide) ?_
        exact case_5 S hr hlocks hst hX hb2 rfl (Nat.le_refl _) rfl rfl rfl rfl lc_L hG hl
      · obtain rfl := st_ofInt hk 6 (by decide)
        refine lv_tableIn (tgt := 530) S.1 S.2.1 dL_law_44 (by decide) (by decide) (off := 486) (by decide) (by decide) ?_
        exact case_6 S hr hlocks hst hX hb2 rfl (Nat.le_refl _) rfl rfl rfl rfl lc_L hG hl
      · obtain rfl := st_ofInt hk 7 (by decide)
        refine lv_tableIn (tgt := 624) S.1 S.2.1 dL_law_44 (by decide) (by decide) (off := 580) (by decide) (by decide) ?_
        exact case_7 S hr hlocks hst hX hb2 rfl (Nat.le_refl _) rfl rfl rfl rfl lc_L hG hl
      · obtain rfl := st_ofInt hk 8 (by decide)
        refine lv_tableIn (tgt := 692) S.1 S.2.1 dL_law_44 (by decide) (by decide) (off := 648) (by decide) (by decide) ?_
        exact case_8 S hr hlocks hst hX hb2 rfl (Nat.le_refl _) rfl rfl rfl rfl lc_L hG hl
      · obtain rfl := st_ofInt hk 9 (by decide)
        refine lv_tableIn (tgt := 774) S.1 S.2.1 dL_law_44 (by decide) (by decide) (off := 730) (by decide) (by decide) ?_
        exact case_9 S hr hlocks hst hX hb2 rfl (Nat.le_refl _) rfl rfl rfl rfl lc_L hG hl
      · obtain rfl := st_ofInt hk 10 (by decide)
        refine lv_tableIn (tgt := 854) S.1 S.2.1 dL_law_44 (by decide) (by decide) (off := 810) (by decide) (by decide) ?_
        exact case_10 S hr hlocks hst hX hb2 rfl (Nat.le_refl _) rfl rfl rfl rfl lc_L hG hl
      · obtain rfl := st_ofInt hk 11 (by decide)
        refine lv_tableIn (tgt := 934) S.1 S.2.1 dL_law_44 (by decide) (by decide) (off := 890) (by decide) (by decide) ?_
        exact case_11 S hr hlocks hst hX hb2 rfl (Nat.le_refl _) rfl rfl rfl rfl lc_L hG hl
      · obtain rfl := st_ofInt hk 12 (by decide)
        refine lv_tableIn (tgt := 1002) S.1 S.2.1 dL_law_44 (by decide) (by decide) (off := 958) (by decide) (by decide) ?_
        exact case_12 S hr hlocks hst hX hb2 rfl (Nat.le_refl _) rfl rfl rfl rfl lc_L hG hl
      · obtain rfl := st_ofInt hk 13 (by decide)
        refine lv_tableIn (tgt := 1058) S.1 S.2.1 dL_law_44 (by decide) (by decide) (off := 1014) (by decide) (by decide) ?_
        exact case_13 S hr hlocks hst hX hb2 rfl (Nat.le_refl _) rfl rfl rfl rfl lc_L hG hl
      · obtain rfl := st_ofInt hk 14 (by decide)
        refine lv_tableIn (tgt := 1126) S.1 S.2.1 dL_law_44 (by decide) (by decide) (off := 1082) (by decide) (by decide) ?_
        exact case_14 S hr hlocks hst hX hb2 rfl (Nat.le_refl _) rfl rfl rfl rfl lc_L hG hl
      · obtain rfl := st_ofInt hk 15 (by decide)
        refine lv_tableIn (tgt := 1194) S.1 S.2.1 dL_law_44 (by decide) (by decide) (off := 1150) (by decide) (by decide) ?_
        exact case_15 S hr hlocks hst hX hb2 rfl (Nat.le_refl _) rfl rfl rfl rfl lc_L hG hl
      · obtain rfl := st_ofInt hk 16 (by decide)
        refine lv_tableIn (tgt := 1262) S.1 S.2.1 dL_law_44 (by decide) (by decide) (off := 1218) (by decide) (by decide) ?_
        exact case_16 S hr hlocks hst hX hb2 rfl (Nat.le_refl _) rfl rfl rfl rfl lc_L hG hl
      · obtain rfl := st_ofInt hk 17 (by decide)
        refine lv_tableIn (tgt := 1330) S.1 S.2.1 dL_law_44 (by decide) (by decide) (off := 1286) (by decide) (by decide) ?_
        exact case_17 S hr hlocks hst hX hb2 rfl (Nat.le_refl _) rfl rfl rfl rfl lc_L hG hl
      · obtain rfl := st_ofInt hk 18 (by decide)
        refine lv_tableIn (tgt := 1398) S.1 S.2.1 dL_law_44 (by decide) (by decide) (off := 1354) (by decide) (by decide) ?_
        exact case_18 S hr hlocks hst hX hb2 rfl (Nat.le_refl _) rfl rfl rfl rfl lc_L hG hl
      · obtain rfl := st_ofInt hk 19 (by decide)
        refine lv_tableIn (tgt := 1466) S.1 S.2.1 dL_law_44 (by decide) (by decide) (off := 1422) (by decide) (by decide) ?_
        exact case_19 S hr hlocks hst hX hb2 rfl (Nat.le_refl _) rfl rfl rfl rfl lc_L hG hl
      · obtain rfl := st_ofInt hk 20 (by decide)
        refine lv_tableIn (tgt := 1534) S.1 S.2.1 dL_law_44 (by decide) (by decide) (off := 1490) (by decide) (by decide) ?_
        exact case_20 S hr hlocks hst hX hb2 rfl (Nat.le_refl _) rfl rfl rfl rfl lc_L hG hl
      · obtain rfl := st_ofInt hk 21 (by decide)
        refine lv_tableIn (tgt := 1633) S.1 S.2.1 dL_law_44 (by decide) (by decide) (off := 1589) (by decide) (by decide) ?_
        exact case_21 S hr hlocks hst hX hb2 rfl (Nat.le_refl _) rfl rfl rfl rfl lc_L hG hl
      · obtain rfl := st_ofInt hk 22 (by decide)
        refine lv_tableIn (tgt := 1713) S.1 S.2.1 dL_law_44 (by decide) (by decide) (off := 1669) (by decide) (by decide) ?_
        exact case_22 S hr hlocks hst hX hb2 rfl (Nat.le_refl _) rfl rfl rfl rfl lc_L hG hl
      · obtain rfl := st_ofInt hk 23 (by decide)
        refine lv_tableIn (tgt := 1793) S.1 S.2.1 dL_law_44 (by decide) (by decide) (off := 1749) (by decide) (by decide) ?_
        exact case_23 S hr hlocks hst hX hb2 rfl (Nat.le_refl _) rfl rfl rfl rfl lc_L hG hl
      · obtain rfl := st_ofInt hk 24 (by decide)
        refine lv_tableIn (tgt := 1861) S.1 S.2.1 dL_law_44 (by decide) (by decide) (off := 1817) (by decide) (by decide) ?_
        exact case_24 S hr hlocks hst hX hb2 rfl (Nat.le_refl _) rfl rfl rfl rfl lc_L hG hl
      · obtain rfl := st_ofInt hk 25 (by decide)
        refine lv_tableIn (tgt := 1929) S.1 S.2.1 dL_law_44 (by decide) (by decide) (off := 1885) (by decide) (by decide) ?_
        exact case_25 S hr hlocks hst hX hb2 rfl (Nat.le_refl _) rfl rfl rfl rfl lc_L hG hl
      · obtain rfl := st_ofInt hk 26 (by decide)
        refine lv_tableIn (tgt := 2018) S.1 S.2.1 dL_law_44 (by decide) (by decide) (off := 1974) (by decide) (by decide) ?_
        exact case_26 S hr hlocks hst hX hb2 rfl (Nat.le_refl _) rfl rfl rfl rfl lc_L hG hl
      · obtain rfl := st_ofInt hk 27 (by decide)
        refine lv_tableIn (tgt := 2086) S.1 S.2.1 dL_law_44 (by decide) (by decide) (off := 2042) (by decide) (by decide) ?_
        exact case_27 S hr hlocks hst hX hb2 rfl (Nat.le_refl _) rfl rfl rfl rfl lc_L hG hl
      · obtain rfl := st_ofInt hk 28 (by decide)
        refine lv_tableIn (tgt := 2130) S.1 S.2.1 dL_law_44 (by decide) (by decide) (off := 2086) (by decide) (by decide) ?_
        exact case_28 S hr hlocks hst hX hb2 rfl (Nat.le_refl _) rfl rfl rfl rfl lc_L hG hl
      · obtain rfl := st_ofInt hk 29 (by decide)
        refine lv_tableIn (tgt := 2186) S.1 S.2.1 dL_law_44 (by decide) (by decide) (off := 2142) (by decide) (by decide) ?_
        exact case_29 S hr hlocks hst hX hb2 rfl (Nat.le_refl _) rfl rfl rfl rfl lc_L hG hl
      · obtain rfl := st_ofInt hk 30 (by decide)
        refine lv_tableIn (tgt := 2242) S.1 S.2.1 dL_law_44 (by decide) (by decide) (off := 2198) (by decide) (by decide) ?_
        exact case_30 S hr hlocks hst hX hb2 rfl (Nat.le_refl _) rfl rfl rfl rfl lc_L hG hl
      · obtain rfl := st_ofInt hk 31 (by decide)
        refine lv_tableIn (tgt := 2298) S.1 S.2.1 dL_law_44 (by decide) (by decide) (off := 2254) (by decide) (by decide) ?_
        exact case_31 S hr hlocks hst hX hb2 rfl (Nat.le_refl _) rfl rfl rfl rfl lc_L hG hl
      · obtain rfl := st_ofInt hk 32 (by decide)
        refine lv_tableIn (tgt := 2354) S.1 S.2.1 dL_law_44 (by decide) (by decide) (off := 2310) (by decide) (by decide) ?_
        exact case_32 S hr hlocks hst hX hb2 rfl (Nat.le_refl _) rfl rfl rfl rfl lc_L hG hl
      · obtain rfl := st_ofInt hk 33 (by decide)
        refine lv_tableIn (tgt := 2398) S.1 S.2.1 dL_law_44 (by decide) (by decide) (off := 2354) (by decide) (by decide) ?_
        exact case_33 S hr hlocks hst hX hb2 rfl (Nat.le_refl _) rfl rfl rfl rfl lc_L hG hl
      · obtain rfl := st_ofInt hk 34 (by decide)
        refine lv_tableIn (tgt := 2442) S.1 S.2.1 dL_law_44 (by decide) (by decide) (off := 2398) (by decide) (by decide) ?_
        exact case_34 S hr hlocks hst hX hb2 rfl (Nat.le_refl _) rfl rfl rfl rfl lc_L hG hl
      · obtain rfl := st_ofInt hk 35 (by decide)
        refine lv_tableIn (tgt := 2493) S.1 S.2.1 dL_law_44 (by decide) (by decide) (off := 2449) (by decide) (by decide) ?_
        exact case_35 S hr hlocks hst hX hb2 rfl (Nat.le_refl _) rfl rfl rfl rfl lc_L hG hl
      · obtain rfl := st_ofInt hk 36 (by decide)
        refine lv_tableIn (tgt := 2549) S.1 S.2.1 dL_law_44 (by decide) (by decide) (off := 2505) (by decide) (by decide) ?_
        exact case_36 S hr hlocks hst hX hb2 rfl (Nat.le_refl _) rfl rfl rfl rfl lc_L hG hl
      · obtain rfl := st_ofInt hk 37 (by decide)
        refine lv_tableIn (tgt := 2593) S.1 S.2.1 dL_law_44 (by decide) (by decide) (off := 2549) (by decide) (by decide) ?_
        exact case_37 S hr hlocks hst hX hb2 rfl (Nat.le_refl _) rfl rfl rfl rfl lc_L hG hl
      · obtain rfl := st_ofInt hk 38 (by decide)
        refine lv_tableIn (tgt := 2637) S.1 S.2.1 dL_law_44 (by decide) (by decide) (off := 2593) (by decide) (by decide) ?_
        exact case_38 S hr hlocks hst hX hb2 rfl (Nat.le_refl _) rfl rfl rfl rfl lc_L hG hl
    · refine lv_tableOut (tgt := 2650) S.1 S.2.1 dL_law_44 (Or.inr (by omega)) (by decide) ?_
      exact case_def S hr hlocks hst hX hb2 rfl (Nat.le_refl _) rfl rfl rfl rfl hG hl
  · refine lv_icmp_gt (tgt := 2656) S.1 S.2.1 dL_law_34 (by decide) (fun _ => ?_) (fun h => absurd (show Int32.ofNat L - 5 < 0 by rcases (show L = 0 ∨ L = 1 ∨ L = 2 ∨ L = 3 ∨ L = 4 by omega) with rfl | rfl | rfl | rfl | rfl <;> decide) h)
    refine lv_iconst (v := 1) S.1 S.2.1 dL_law_2656 (by decide) ?_
    refine va_forget (fun q hq => hG.2.1.2.2 q hq) ?_
    refine W.widen (k := 600002) (n := 7302232) (by decide) (by decide) ?_
    exact lw_ret (d0 := s.drawn) (Drawn.sameBut.refl _ _) S.1 S.2.1 hr hlocks dL_law_2657
