section
-- ===== PART A: goes FIRST, ahead of the names: the tables' words, and 'selects' of the private methods out of them =====
/-- a private method of a class that the tables say can be made, by its rows of tables_1 -/
def lw_okq (q : MethodName × Nat) : Prop := (q.1.cls ≠ "java/lang/invoke/MethodHandle" ∧ q.1.cls ≠ "java/lang/invoke/VarHandle") ∧ Cond.instantiable q.1.cls q.2 ∈ tables_1 ∧ Cond.privateMethod q.1 ∈ tables_1 ∧ Cond.instanceMethod q.1 ∈ tables_1
theorem lw_p0 : lw_okq (⟨"TwoTimesTable", "isTime", "(I)Z"⟩, 3) := ⟨⟨by decide +kernel, by decide +kernel⟩, List.mem_of_getElem? (i := 14) (by decide +kernel), List.mem_of_getElem? (i := 93) (by decide +kernel), List.mem_of_getElem? (i := 94) (by decide +kernel)⟩
theorem lw_p1 : lw_okq (⟨"java/lang/Throwable", "fillInStackTrace", "(I)Ljava/lang/Throwable;"⟩, 6) := ⟨⟨by decide +kernel, by decide +kernel⟩, List.mem_of_getElem? (i := 159) (by decide +kernel), List.mem_of_getElem? (i := 157) (by decide +kernel), List.mem_of_getElem? (i := 158) (by decide +kernel)⟩
theorem lw_p2 : lw_okq (⟨"TwoTimesTable$States", "copyState", "(II)V"⟩, 4) := ⟨⟨by decide +kernel, by decide +kernel⟩, List.mem_of_getElem? (i := 22) (by decide +kernel), List.mem_of_getElem? (i := 188) (by decide +kernel), List.mem_of_getElem? (i := 189) (by decide +kernel)⟩
theorem lw_p3 : lw_okq (⟨"TwoTimesTable$States", "changeDay", "(IIII)Z"⟩, 4) := ⟨⟨by decide +kernel, by decide +kernel⟩, List.mem_of_getElem? (i := 22) (by decide +kernel), List.mem_of_getElem? (i := 220) (by decide +kernel), List.mem_of_getElem? (i := 221) (by decide +kernel)⟩
theorem lw_p4 : lw_okq (⟨"TwoTimesTable$States", "recountRows", "(I)V"⟩, 4) := ⟨⟨by decide +kernel, by decide +kernel⟩, List.mem_of_getElem? (i := 22) (by decide +kernel), List.mem_of_getElem? (i := 225) (by decide +kernel), List.mem_of_getElem? (i := 226) (by decide +kernel)⟩
theorem lw_p5 : lw_okq (⟨"TwoTimesTable$States", "startsRow", "(II)Z"⟩, 4) := ⟨⟨by decide +kernel, by decide +kernel⟩, List.mem_of_getElem? (i := 22) (by decide +kernel), List.mem_of_getElem? (i := 229) (by decide +kernel), List.mem_of_getElem? (i := 230) (by decide +kernel)⟩
theorem lw_p6 : lw_okq (⟨"TwoTimesTable$States", "continuesRun", "(II)Z"⟩, 4) := ⟨⟨by decide +kernel, by decide +kernel⟩, List.mem_of_getElem? (i := 22) (by decide +kernel), List.mem_of_getElem? (i := 237) (by decide +kernel), List.mem_of_getElem? (i := 238) (by decide +kernel)⟩
theorem lw_p7 : lw_okq (⟨"TwoTimesTable$States", "sharesRun", "(III)Z"⟩, 4) := ⟨⟨by decide +kernel, by decide +kernel⟩, List.mem_of_getElem? (i := 22) (by decide +kernel), List.mem_of_getElem? (i := 241) (by decide +kernel), List.mem_of_getElem? (i := 242) (by decide +kernel)⟩
theorem lw_p8 : lw_okq (⟨"TwoTimesTable$States", "rowStart", "(II)I"⟩, 4) := ⟨⟨by decide +kernel, by decide +kernel⟩, List.mem_of_getElem? (i := 22) (by decide +kernel), List.mem_of_getElem? (i := 368) (by decide +kernel), List.mem_of_getElem? (i := 369) (by decide +kernel)⟩
theorem lw_p9 : lw_okq (⟨"TwoTimesTable$States", "partOfRow", "(IIII)I"⟩, 4) := ⟨⟨by decide +kernel, by decide +kernel⟩, List.mem_of_getElem? (i := 22) (by decide +kernel), List.mem_of_getElem? (i := 372) (by decide +kernel), List.mem_of_getElem? (i := 373) (by decide +kernel)⟩
theorem lw_p10 : lw_okq (⟨"TwoTimesTable$States", "rowEnd", "(III)I"⟩, 4) := ⟨⟨by decide +kernel, by decide +kernel⟩, List.mem_of_getElem? (i := 22) (by decide +kernel), List.mem_of_getElem? (i := 376) (by decide +kernel), List.mem_of_getElem? (i := 377) (by decide +kernel)⟩
theorem lw_p11 : lw_okq (⟨"TwoTimesTableModel", "fail", "(I)I"⟩, 10) := ⟨⟨by decide +kernel, by decide +kernel⟩, List.mem_of_getElem? (i := 417) (by decide +kernel), List.mem_of_getElem? (i := 463) (by decide +kernel), List.mem_of_getElem? (i := 464) (by decide +kernel)⟩
theorem lw_p12 : lw_okq (⟨"TwoTimesTableModel", "keep", "()V"⟩, 10) := ⟨⟨by decide +kernel, by decide +kernel⟩, List.mem_of_getElem? (i := 417) (by decide +kernel), List.mem_of_getElem? (i := 475) (by decide +kernel), List.mem_of_getElem? (i := 476) (by decide +kernel)⟩
theorem lw_p13 : lw_okq (⟨"TwoTimesTableModel", "perform", "(IIIII)I"⟩, 10) := ⟨⟨by decide +kernel, by decide +kernel⟩, List.mem_of_getElem? (i := 417) (by decide +kernel), List.mem_of_getElem? (i := 479) (by decide +kernel), List.mem_of_getElem? (i := 480) (by decide +kernel)⟩
theorem lw_p14 : lw_okq (⟨"TwoTimesTableModel", "heldIn", "(III)I"⟩, 10) := ⟨⟨by decide +kernel, by decide +kernel⟩, List.mem_of_getElem? (i := 417) (by decide +kernel), List.mem_of_getElem? (i := 489) (by decide +kernel), List.mem_of_getElem? (i := 490) (by decide +kernel)⟩
theorem lw_p15 : lw_okq (⟨"TwoTimesTableModel", "change", "(III)V"⟩, 10) := ⟨⟨by decide +kernel, by decide +kernel⟩, List.mem_of_getElem? (i := 417) (by decide +kernel), List.mem_of_getElem? (i := 496) (by decide +kernel), List.mem_of_getElem? (i := 497) (by decide +kernel)⟩
def lw_privs_1 : List (MethodName × Nat) := [(⟨"TwoTimesTable", "isTime", "(I)Z"⟩, 3), (⟨"java/lang/Throwable", "fillInStackTrace", "(I)Ljava/lang/Throwable;"⟩, 6), (⟨"TwoTimesTable$States", "copyState", "(II)V"⟩, 4), (⟨"TwoTimesTable$States", "changeDay", "(IIII)Z"⟩, 4), (⟨"TwoTimesTable$States", "recountRows", "(I)V"⟩, 4), (⟨"TwoTimesTable$States", "startsRow", "(II)Z"⟩, 4), (⟨"TwoTimesTable$States", "continuesRun", "(II)Z"⟩, 4), (⟨"TwoTimesTable$States", "sharesRun", "(III)Z"⟩, 4), (⟨"TwoTimesTable$States", "rowStart", "(II)I"⟩, 4), (⟨"TwoTimesTable$States", "partOfRow", "(IIII)I"⟩, 4), (⟨"TwoTimesTable$States", "rowEnd", "(III)I"⟩, 4), (⟨"TwoTimesTableModel", "fail", "(I)I"⟩, 10), (⟨"TwoTimesTableModel", "keep", "()V"⟩, 10), (⟨"TwoTimesTableModel", "perform", "(IIIII)I"⟩, 10), (⟨"TwoTimesTableModel", "heldIn", "(III)I"⟩, 10), (⟨"TwoTimesTableModel", "change", "(III)V"⟩, 10)]
theorem lw_r1 : ∀ q ∈ lw_privs_1, lw_okq q := List.forall_mem_cons.mpr ⟨lw_p0, List.forall_mem_cons.mpr ⟨lw_p1, List.forall_mem_cons.mpr ⟨lw_p2, List.forall_mem_cons.mpr ⟨lw_p3, List.forall_mem_cons.mpr ⟨lw_p4, List.forall_mem_cons.mpr ⟨lw_p5, List.forall_mem_cons.mpr ⟨lw_p6, List.forall_mem_cons.mpr ⟨lw_p7, List.forall_mem_cons.mpr ⟨lw_p8, List.forall_mem_cons.mpr ⟨lw_p9, List.forall_mem_cons.mpr ⟨lw_p10, List.forall_mem_cons.mpr ⟨lw_p11, List.forall_mem_cons.mpr ⟨lw_p12, List.forall_mem_cons.mpr ⟨lw_p13, List.forall_mem_cons.mpr ⟨lw_p14, List.forall_mem_cons.mpr ⟨lw_p15, fun _ h => absurd h List.not_mem_nil⟩⟩⟩⟩⟩⟩⟩⟩⟩⟩⟩⟩⟩⟩⟩⟩
theorem lw_p16 : lw_okq (⟨"TwoTimesTableModel", "countRows", "()I"⟩, 10) := ⟨⟨by decide +kernel, by decide +kernel⟩, List.mem_of_getElem? (i := 417) (by decide +kernel), List.mem_of_getElem? (i := 500) (by decide +kernel), List.mem_of_getElem? (i := 501) (by decide +kernel)⟩
theorem lw_p17 : lw_okq (⟨"TwoTimesTableModel", "isRow", "(III)Z"⟩, 10) := ⟨⟨by decide +kernel, by decide +kernel⟩, List.mem_of_getElem? (i := 417) (by decide +kernel), List.mem_of_getElem? (i := 504) (by decide +kernel), List.mem_of_getElem? (i := 505) (by decide +kernel)⟩
theorem lw_p18 : lw_okq (⟨"TwoTimesTableModel", "begins", "(III)Z"⟩, 10) := ⟨⟨by decide +kernel, by decide +kernel⟩, List.mem_of_getElem? (i := 417) (by decide +kernel), List.mem_of_getElem? (i := 508) (by decide +kernel), List.mem_of_getElem? (i := 509) (by decide +kernel)⟩
theorem lw_p19 : lw_okq (⟨"TwoTimesTableModel", "alike", "(IIII)Z"⟩, 10) := ⟨⟨by decide +kernel, by decide +kernel⟩, List.mem_of_getElem? (i := 417) (by decide +kernel), List.mem_of_getElem? (i := 512) (by decide +kernel), List.mem_of_getElem? (i := 513) (by decide +kernel)⟩
theorem lw_p20 : lw_okq (⟨"TwoTimesTableModel", "endOf", "(III)I"⟩, 10) := ⟨⟨by decide +kernel, by decide +kernel⟩, List.mem_of_getElem? (i := 417) (by decide +kernel), List.mem_of_getElem? (i := 516) (by decide +kernel), List.mem_of_getElem? (i := 517) (by decide +kernel)⟩
theorem lw_p21 : lw_okq (⟨"TwoTimesTableModel", "isRun", "(IIIII)Z"⟩, 10) := ⟨⟨by decide +kernel, by decide +kernel⟩, List.mem_of_getElem? (i := 417) (by decide +kernel), List.mem_of_getElem? (i := 520) (by decide +kernel), List.mem_of_getElem? (i := 521) (by decide +kernel)⟩
theorem lw_p22 : lw_okq (⟨"TwoTimesTableModel", "goBack", "()V"⟩, 10) := ⟨⟨by decide +kernel, by decide +kernel⟩, List.mem_of_getElem? (i := 417) (by decide +kernel), List.mem_of_getElem? (i := 524) (by decide +kernel), List.mem_of_getElem? (i := 525) (by decide +kernel)⟩
theorem lw_p23 : lw_okq (⟨"TwoTimesTableModel", "isTime", "(I)Z"⟩, 10) := ⟨⟨by decide +kernel, by decide +kernel⟩, List.mem_of_getElem? (i := 417) (by decide +kernel), List.mem_of_getElem? (i := 547) (by decide +kernel), List.mem_of_getElem? (i := 548) (by decide +kernel)⟩
theorem lw_p24 : lw_okq (⟨"TwoTimesTableModel", "endTime", "(III)I"⟩, 10) := ⟨⟨by decide +kernel, by decide +kernel⟩, List.mem_of_getElem? (i := 417) (by decide +kernel), List.mem_of_getElem? (i := 575) (by decide +kernel), List.mem_of_getElem? (i := 576) (by decide +kernel)⟩
def lw_privs_2 : List (MethodName × Nat) := [(⟨"TwoTimesTableModel", "countRows", "()I"⟩, 10), (⟨"TwoTimesTableModel", "isRow", "(III)Z"⟩, 10), (⟨"TwoTimesTableModel", "begins", "(III)Z"⟩, 10), (⟨"TwoTimesTableModel", "alike", "(IIII)Z"⟩, 10), (⟨"TwoTimesTableModel", "endOf", "(III)I"⟩, 10), (⟨"TwoTimesTableModel", "isRun", "(IIIII)Z"⟩, 10), (⟨"TwoTimesTableModel", "goBack", "()V"⟩, 10), (⟨"TwoTimesTableModel", "isTime", "(I)Z"⟩, 10), (⟨"TwoTimesTableModel", "endTime", "(III)I"⟩, 10)]
theorem lw_r2 : ∀ q ∈ lw_privs_2, lw_okq q := List.forall_mem_cons.mpr ⟨lw_p16, List.forall_mem_cons.mpr ⟨lw_p17, List.forall_mem_cons.mpr ⟨lw_p18, List.forall_mem_cons.mpr ⟨lw_p19, List.forall_mem_cons.mpr ⟨lw_p20, List.forall_mem_cons.mpr ⟨lw_p21, List.forall_mem_cons.mpr ⟨lw_p22, List.forall_mem_cons.mpr ⟨lw_p23, List.forall_mem_cons.mpr ⟨lw_p24, fun _ h => absurd h List.not_mem_nil⟩⟩⟩⟩⟩⟩⟩⟩⟩
def lw_privs : List (MethodName × Nat) := lw_privs_1 ++ (lw_privs_2)
def lw_tbl : List Cond := k2_sels lw_privs ++ tables_1
theorem lw_privs_ok : ∀ q ∈ lw_privs, lw_okq q := by
  show ∀ q ∈ lw_privs_1 ++ (lw_privs_2), lw_okq q
  exact List.forall_mem_append.mpr ⟨lw_r1, lw_r2⟩
end
section
/-! my own rows: an exception that came out of a call is caught by a row of the caller's table whose class is linked by name, behind rows whose classes do not take it. (The round's library is without Shelf42, where such laws lie; these rows are over ThrowLaws, StandMore alone.) -/
section XC
variable {Q : Handler → Pre} {E : CtlPost} {e : Env} {d : Bool} {acts : List Action} {s : State} {f : JFrame} {a : Addr}
/-- one row that covers the place, its class linked: taken, or passed -/
theorem xc_row {x : ExceptionTableEntry} {t : List ExceptionTableEntry} {k : ClassId} {cell : Cell} (hx : covers x f.pc = true) (h0 : x.catchType ≠ 0) (hl : s.vm.ClassLinks e.platform f.method.cls x.catchType k) (hcell : s.heap[a]? = some cell) (hobj : ∀ j, cell.vm ≠ .statics j) (hk : ∃ j, s.vm.classes[cell.cls]? = some j) (hc : ∃ j, s.vm.classes[k]? = some j) :
    wp (findHandler.go f a (x :: t)) Q E e d acts s ↔ (if s.vm.assignable cell.cls k = true then Q (.found x.handlerPc) d acts (s.setVm (s.vm.noted f.method.cls x.catchType (.cls k))) else wp (findHandler.go f a t) Q E e d acts (s.setVm (s.vm.noted f.method.cls x.catchType (.cls k)))) := by
  simp only [covers] at hx
  obtain ⟨r1, r2⟩ := (resolveClass_links e.toSetting hl).op (op := VmOp.resolveClass f.method.cls x.catchType) rfl
  have al : s.vm.Alike (s.vm.noted f.method.cls x.catchType (.cls k)) := (Vm.Alike.refl s.vm).noted _ _ _
  obtain ⟨j1, hj1⟩ := hk
  obtain ⟨j2, hj2⟩ := hc
  obtain ⟨i1, hi1, -⟩ := al.2.2 _ _ hj1
  obtain ⟨i2, hi2, -⟩ := al.2.2 _ _ hj2
  by_cases hfit : s.vm.assignable cell.cls k = true
  · have h9 : (s.vm.noted f.method.cls x.catchType (.cls k)).assignable cell.cls k = true := by rw [al.assignable]; exact hfit
    rw [if_pos hfit]
    simp [findHandler.go, hx, h0, r1, r2, hcell, hobj, hi1, hi2, h9, VmOp.dirties, VmOp.acts]
  · have h9 : (s.vm.noted f.method.cls x.catchType (.cls k)).assignable cell.cls k = false := by rw [al.assignable]; exact Bool.eq_false_iff.mpr hfit
    rw [if_neg hfit]
    simp [findHandler.go, hx, h0, r1, r2, hcell, hobj, hi1, hi2, h9, VmOp.dirties, VmOp.acts]
end XC
/-- the rows ahead pass it, the row x takes it: the search ends there -/
theorem xc_go {e : Env} {s₀ : State} {f : JFrame} {a : Addr} {cell : Cell} {k : ClassId} (hobj : ∀ j, cell.vm ≠ .statics j) (hk0 : ∃ j, s₀.vm.classes[cell.cls]? = some j) (x : ExceptionTableEntry) (suf : List ExceptionTableEntry) (hx : covers x f.pc = true) (h0 : x.catchType ≠ 0) (hl : s₀.vm.ClassLinks e.platform f.method.cls x.catchType k) (hfit : s₀.vm.assignable cell.cls k = true) :
    ∀ (pre : List ExceptionTableEntry) (S : State), s₀.WarmedH S.vm → S.heap[a]? = some cell → (∀ y ∈ pre, covers y f.pc = false ∨ (y.catchType ≠ 0 ∧ ∃ j, s₀.vm.ClassLinks e.platform f.method.cls y.catchType j ∧ s₀.vm.assignable cell.cls j = false)) →
      ∃ vm', s₀.WarmedH vm' ∧ ∀ (Q : Handler → Pre) (E : CtlPost) (d : Bool) (acts : List Action), wp (findHandler.go f a (pre ++ x :: suf)) Q E e d acts S ↔ Q (.found x.handlerPc) d acts (S.setVm vm') := by
  obtain ⟨k0, hk0⟩ := hk0
  intro pre
  induction pre with
  | nil =>
    intro S hW hcell _
    obtain ⟨k0', hk0', -⟩ := hW.alike.2.2 _ _ hk0
    obtain ⟨dk, _, _, kt, hd, _, _, _, _, hkt, _, hopen⟩ := hl.here
    obtain ⟨kt', hkt', -⟩ := hW.alike.2.2 _ _ hkt
    refine ⟨_, hW.noted hd hopen (State.rightAt_cls hl), fun Q E d acts => ?_⟩
    rw [List.nil_append, xc_row hx h0 (hW.classLinks hl) hcell hobj ⟨k0', hk0'⟩ ⟨kt', hkt'⟩, if_pos (by rw [hW.alike.assignable]; exact hfit)]
  | cons y ys ih =>
    intro S hW hcell hpass
    obtain ⟨k0', hk0', -⟩ := hW.alike.2.2 _ _ hk0
    have hrest := fun z hz => hpass z (List.mem_cons_of_mem y hz)
    rcases hpass y List.mem_cons_self with h | ⟨hy0, j, hyl, hno⟩
    · obtain ⟨vm', hW', hq⟩ := ih S hW hcell hrest
      refine ⟨vm', hW', fun Q E d acts => ?_⟩
      rw [List.cons_append, W.findHandler_go_skip h]
      exact hq Q E d acts
    · by_cases hcov : covers y f.pc = true
      · obtain ⟨dk, _, _, kt, hd, _, _, _, _, hkt, _, hopen⟩ := hyl.here
        obtain ⟨kt', hkt', -⟩ := hW.alike.2.2 _ _ hkt
        obtain ⟨vm', hW', hq⟩ := ih (S.setVm (S.vm.noted f.method.cls y.catchType (.cls j))) (hW.noted hd hopen (State.rightAt_cls hyl)) hcell hrest
        refine ⟨vm', hW', fun Q E d acts => ?_⟩
        rw [List.cons_append, xc_row hcov hy0 (hW.classLinks hyl) hcell hobj ⟨k0', hk0'⟩ ⟨kt', hkt'⟩, if_neg (by rw [hW.alike.assignable, hno]; exact Bool.false_ne_true)]
        exact hq Q E d acts
      · obtain ⟨vm', hW', hq⟩ := ih S hW hcell hrest
        refine ⟨vm', hW', fun Q E d acts => ?_⟩
        rw [List.cons_append, W.findHandler_go_skip (Bool.eq_false_iff.mpr hcov)]
        exact hq Q E d acts
/-- the caller goes on at the handler -/
theorem xc_caught {p : Program} {l : Launch} {e : Env} {R : Room} {s : State} {m : MethodId} {args : Array Value} {below : List Frame} {meth : Method} {c : Code} {T : State} {locs : List Loc} {cells slots : Nat} (X : Stand p l e R s m args below meth c T locs cells slots) (a : Addr) {g : JFrame} (hg : g.method = m) {cell : Cell} (hcell : T.heap[a]? = some cell) (hobj : cell.vm.isStatics = false) (hk0 : ∃ j, s.vm.classes[cell.cls]? = some j)
    (pre : List ExceptionTableEntry) (x : ExceptionTableEntry) (suf : List ExceptionTableEntry) (hsplit : c.exceptionTable.toList = pre ++ x :: suf) (hpass : ∀ y ∈ pre, covers y g.pc = false ∨ (y.catchType ≠ 0 ∧ ∃ j, s.vm.ClassLinks e.platform m.cls y.catchType j ∧ s.vm.assignable cell.cls j = false)) (hx : covers x g.pc = true) (h0 : x.catchType ≠ 0) {k : ClassId} (hl : s.vm.ClassLinks e.platform m.cls x.catchType k) (hfit : s.vm.assignable cell.cls k = true) :
    ∃ vm', Stand p l e R s m args below meth c (T.setVm vm') locs cells slots ∧ Steps p.tables e below ((T.setTop g).pushFrame (.throwing a)) ((T.setVm vm').setTop { g with pc := x.handlerPc, stack := [.ref a] }) := by
  subst hg
  obtain ⟨vm', hW', hq⟩ := xc_go (e := e) (f := g) (a := a) (VmData.ne_statics_of hobj) hk0 x suf hx h0 hl hfit pre ((T.setTop g).pushFrame (.throwing a)) X.warmed hcell hpass
  refine ⟨vm', X.noted hW', ?_⟩
  have hfind : ∀ (Q : Handler → Pre) (E : CtlPost) (d : Bool) (acts : List Action), wp (findHandler g a) Q E e d acts ((T.setTop g).pushFrame (.throwing a)) ↔ Q (.found x.handlerPc) d acts (((T.setTop g).pushFrame (.throwing a)).setVm vm') := fun Q E d acts => by
    rw [W.findHandler_eq (s := (T.setTop g).pushFrame (.throwing a)) (meth := meth) (code := c) X.method' X.code, hsplit]
    exact hq Q E d acts
  obtain ⟨hgo, hw⟩ := X.here.throwing a (g := g)
  refine Steps.head hgo hw ?_
  rw [stepThread_throwing (frames_entered X.here.top _)]
  have hstep : (stepThrowing e ((T.setTop g).pushFrame (.throwing a)) a (.java g :: T.frames.tail)).1 = (((T.setTop g).pushFrame (.throwing a)).setVm vm').setFrames (.java { g with pc := x.handlerPc, stack := [.ref a] } :: T.frames.tail) := by
    simp only [stepThrowing, searchFrame, vmDo]
    generalize hr : Sem.go _ e false [] ((T.setTop g).pushFrame (.throwing a)) = res
    obtain ⟨as, rfl, -⟩ := Sem.eq_ok_of hr (a := Handler.found x.handlerPc) (s' := ((T.setTop g).pushFrame (.throwing a)).setVm vm') (acts' := []) (by simp [hfind _ _ _ _])
    rfl
  obtain ⟨g₀, hg0⟩ := Option.isSome_iff_exists.mp X.here.top
  obtain ⟨r, hr⟩ := State.topJava?_eq_some.mp hg0
  have e1 : ∀ (u : State) (F G : List Frame), ((u.setFrames F).setVm vm').setFrames G = (u.setVm vm').setFrames G := fun u F G => by
    show ((u.setVm vm').setFrames F).setFrames G = _
    rw [State.setFrames_setFrames]
  have hr' : (T.setVm vm').frames = .java g₀ :: r := hr
  rw [hstep, State.setTop_of_frames _ hr', hr, List.tail_cons, State.pushFrame, e1, State.setTop_of_frames _ hr, e1]
  exact Steps.refl _
/-! ===== BEGIN words of one list among another's, by their places ===== -/
theorem goodIn_r {big : List Cond} (ws : List Cond) (ps : List Nat) (hp : ws = ps.filterMap (fun i => big[i]?)) (h : ws.all goodWord = true) : GoodIn big ws := by
  intro w hw
  have h1 := List.all_eq_true.mp h w hw
  rw [hp] at hw
  obtain ⟨i, -, hi⟩ := List.mem_filterMap.mp hw
  have hm : w ∈ big := by first | exact List.mem_of_getElem? hi | exact List.getElem?_mem hi
  exact ⟨hm, good_of_word h1⟩
theorem goodIn_app {big a b : List Cond} (ha : GoodIn big a) (hb : GoodIn big b) : GoodIn big (a ++ b) := fun w h => (List.mem_append.mp h).elim (ha w) (hb w)
theorem goodIn_ca {big a b : List Cond} {c : Cond} (ha : GoodIn big (c :: a)) (hb : GoodIn big b) : GoodIn big (c :: (a ++ b)) := fun w h => (List.mem_cons.mp h).elim (fun e => ha w (List.mem_cons.mpr (Or.inl e))) (fun h => (List.mem_append.mp h).elim (fun h => ha w (List.mem_cons.mpr (Or.inr h))) (hb w))
theorem goodIn_sub {big ws : List Cond} (hm : ∀ w ∈ ws, w ∈ big) (h : ws.all goodWord = true) : GoodIn big ws := fun w hw => ⟨hm w hw, good_of_word (List.all_eq_true.mp h w hw)⟩
/-! ===== END ===== -/

/-! ===== BEGIN exceptions that leave a method, and their catching by the caller (launches without stack traces) ===== -/
section VXA
/-! The laws vx_back, vx_callV, vx_callS, vx_callSW, vx_throw0, vx_throwS follow proofs of the library, with one case more: JvmDerived/Free/Laws.lean (Back.of_free), Shelf42/LK1.lean (callV, callS), Shelf/KitTraced.lean (throwNew0V, throwNewS). -/
/-- where a method has thrown q: the class by its name, the cell, what was written, the world -/
def vx_T (XC : String → State → State → Prop) (st : State) (q : Addr) (t : State) (mc ms : Nat) (free : Addr → Prop) : Prop :=
  ∃ (E : String) (ce : Cell) (L : List Loc), XC E st t ∧ t.heap[q]? = some ce ∧ ce.vm = .none ∧ st.vm.findClass E = some ce.cls ∧ st.WarmedH t.vm ∧ st.sameButNew ({ t with vm := st.vm } : State) L mc ms ∧ ∀ z ∈ L, free z.base
def vx_Q (Qc : Array Value → State → Outcome → State → Prop) (XC : String → State → State → Prop) (mc ms : Nat) (free : Addr → Prop) : Array Value → State → Outcome → State → Prop := fun a st o t =>
  (Qc a st o t ∧ ∃ L, FrameEnd st o t L mc ms ∧ ∀ q ∈ L, free q.base) ∨ ∃ q, o = .threw q ∧ vx_T XC st q t mc ms free
/-- a callee that returns or throws -/
def vx_Met (l : Launch) (y : MethodName) (ws : List Cond) (rm : Room) (Pc : Array Value → State → Prop) (Qc : Array Value → State → Outcome → State → Prop) (XC : String → State → State → Prop) (mc ms : Nat) (free : Addr → Prop) : Prop :=
  MetFree l y (headSpec ws rm) Pc (fun _ _ _ _ _ => True) (vx_Q Qc XC mc ms free)
def vx_Post (XC : String → State → State → Prop) (mc ms : Nat) (free : Addr → Prop) : Pt → Array Value → Addr → Pt → Prop := fun A a q B =>
  ∃ (g : JFrame) (mk : MethodId) (t : State) (L : List Loc) (E : String) (ce : Cell), B.U.heap = t.heap ∧ B.U.vm = t.vm ∧ XC E (A.U.calling g mk a) t ∧ t.heap[q]? = some ce ∧ ce.vm = .none ∧ A.U.vm.findClass E = some ce.cls ∧ B.locs = A.locs ++ L ∧ (∀ z ∈ L, free z.base) ∧ B.cells = A.cells + mc ∧ B.slots = A.slots + ms
def vx_Back (l : Launch) (R : Room) (p : Program) (e : Env) (below : List Frame) (s : State) (sargs : Array Value) (y : MethodName) (len W9 : Nat)
    (Pre : Pt → Array Value → Prop) (Post : Pt → Array Value → Option Value → Pt → Prop) (PostX : Pt → Array Value → Addr → Pt → Prop) : Prop :=
  ∀ (m : MethodId) (meth : Method) (c : Code) (A : Pt) (g : JFrame) (ig : Instr) (mk : MethodId) (a : Array Value),
    Stand p l e R s m sargs below meth c A.U A.locs A.cells A.slots → g.method = m → g.locals.size = c.maxLocals → decode c.code g.pc = .ok (ig, len) →
    2 * g.monitorRoom + (g.stack.map fun v => v.category).sum ≤ W9 → A.U.methodNamed? y = some mk → Pre A a →
    (∃ (v : Option Value) (B : Pt), Stand p l e R s m sargs below meth c B.U B.locs B.cells B.slots ∧ Post A a v B ∧
      Steps p.tables e below (doInvoke e (A.U.setTop g) [] mk a).1 (B.U.setTop { g with pc := g.pc + len, stack := v.toList ++ g.stack })) ∨
    (∃ (q : Addr) (B : Pt), Stand p l e R s m sargs below meth c B.U B.locs B.cells B.slots ∧ PostX A a q B ∧
      Steps p.tables e below (doInvoke e (A.U.setTop g) [] mk a).1 ((B.U.setTop g).pushFrame (.throwing q)))
section Payer
variable {l : Launch} {R : Room} {p : Program} {e : Env} {below : List Frame} {s : State} {sargs : Array Value} {y : MethodName} {len W9 : Nat}
theorem vx_back {ws : List Cond} {rm : Room} {Pc : Array Value → State → Prop} {Qc : Array Value → State → Outcome → State → Prop} {XC : String → State → State → Prop} {mc ms : Nat} {free : Addr → Prop} {bytes : ByteArray} {maxL : Nat} {ret : Option FieldType}
    (hM : vx_Met l y ws rm Pc Qc XC mc ms free) (hblind : FrameBlind Pc) (hrc : rm.cells = mc) (hrs : rm.slots = ms)
    (hframes : rm.frames + 1 ≤ R.frames) (hlocals : W9 + (maxL + 11) + rm.locals ≤ R.locals)
    (hws : ∀ w ∈ ws, ∀ a' U, s.WarmedH U.vm → w.before a' U = true) (hcode : Cond.code y bytes maxL ret ∈ ws) (hinit : ∀ a' U, s.WarmedH U.vm → (Cond.initialized y.cls).before a' U = true) :
    vx_Back l R p e below s sargs y len W9 (PreOf R mc ms Pc) (PostOf Qc mc ms free) (vx_Post XC mc ms free) := by
  intro m meth c A g ig mk a X hg hsize hdg hW hn hp
  have h1 : (headSpec ws rm).pre.before a A.U = true := atoms_intro fun w hw => hws w hw _ _ X.warmed
  have h2 : (Cond.code y bytes maxL ret).before a A.U = true := hws _ hcode _ _ X.warmed
  have h3 : (Cond.initialized y.cls).before a A.U = true := hinit _ _ X.warmed
  have h4 : A.cells + (headSpec ws rm).room.cells ≤ R.cells := by rw [show (headSpec ws rm).room.cells = mc from hrc]; exact hp.1
  have h5 : A.slots + (headSpec ws rm).room.slots ≤ R.slots := by rw [show (headSpec ws rm).room.slots = ms from hrs]; exact hp.2.1
  have hPc : Pc a (A.U.calling g mk a) := hblind _ _ _ _ hp.2.2
  obtain ⟨U, Ls, c0, s0⟩ := A
  dsimp only [Pt.U, Pt.locs, Pt.cells, Pt.slots] at h1 h2 h3 h4 h5 X hn hPc ⊢
  obtain ⟨methY, cY, hmY, hcY, -, hlY, -, -, -, -⟩ := Cond.code_spec hn h2
  obtain ⟨kY, hkY, -⟩ := className_of_methodNamed hn
  have hinitY : kY.init = .initialized := Cond.initialized_spec (findClass_of_methodNamed hn) hkY h3
  have h : At U g.method c below := by rw [hg]; exact X.here
  have hlocals9 : W9 + (maxL + 11) + (headSpec ws rm).room.locals ≤ R.locals := hlocals
  have happ : (headSpec ws rm).appliesLoose y e.platform (U.calling g mk a) = true :=
    Spec.appliesLoose_calling (g := g) h hdg hn hkY hinitY
      (X.room_calling (g := g) (R' := (headSpec ws rm).room) hsize hmY hcY hframes (by rw [hlY]; omega) h4 h5) h1
  obtain ⟨mid, hmid⟩ := h.above
  have hfr : (U.setTop g).frames = (.java g :: mid) ++ below := by rw [State.frames_setTop' g h.top, hmid]; rfl
  obtain ⟨o, s₂, hsteps, -, hend, hq⟩ := Steps.callFree hM p X.admits X.cas X.clock (acts := []) hfr happ hPc trivial
  have hq' : vx_Q Qc XC mc ms free a (U.calling g mk a) o s₂ := hq
  rw [State.frames_setTop' g h.top] at hend
  obtain ⟨g₀, hg0⟩ := Option.isSome_iff_exists.mp h.top
  obtain ⟨r, hr⟩ := State.topJava?_eq_some.mp hg0
  have hr' : (({ U with heap := s₂.heap, slotsUsed := s₂.slotsUsed } : State).setVm s₂.vm).frames = .java g₀ :: r := hr
  rcases hq' with ⟨hqc, L, hfe, hL⟩ | ⟨q, rfl, E, ce, L, hx, hce, hcv, hcl, hW₂, hsm, hL⟩
  · obtain ⟨⟨v, rfl⟩, hW₂, e2, q2, q3, q4, q5, q6⟩ := id hfe
    have e3 : s₂ = ({ (U.calling g mk a).setFrames s₂.frames with heap := s₂.heap, slotsUsed := s₂.slotsUsed } : State).setVm s₂.vm := by
      have : s₂ = ({ s₂ with vm := (U.calling g mk a).vm } : State).setVm s₂.vm := rfl
      rw [e2] at this
      exact this
    obtain ⟨c₂, i₂, len₂, hc₂, hd₂, hf₂⟩ := hend
    have hW' : U.WarmedH s₂.vm := hW₂
    have hcc : c₂ = c := by
      have h1 : s₂.code? g.method = U.code? g.method := by
        rw [State.code?_eq, State.code?_eq, hW'.alike.method?]
      exact Option.some.inj (hc₂.symm.trans (h1.trans h.code))
    subst hcc
    have hlen : len₂ = len := by rw [hdg] at hd₂; cases hd₂; rfl
    subst hlen
    have hs₂ : s₂ = (({ U with heap := s₂.heap, slotsUsed := s₂.slotsUsed } : State).setVm s₂.vm).setTop { g with pc := g.pc + len₂, stack := v.toList ++ g.stack } := by
      refine e3.trans ?_
      rw [hf₂, State.calling_eq h.top, State.setFrames_setFrames, State.setTop_of_frames _ hr', hr]
      rfl
    have hsame : U.sameButNew ({ U with heap := s₂.heap, slotsUsed := s₂.slotsUsed } : State) L mc ms := by
      refine ⟨?_, q2, q3, q4, q5, q6⟩
      obtain ⟨t, ht, -⟩ := State.frames_cons hr
      show ({ U with heap := s₂.heap, slotsUsed := s₂.slotsUsed } : State) = { U.setFrames U.frames with heap := s₂.heap, slotsUsed := s₂.slotsUsed }
      rw [State.setFrames_self ht]
    subst hg
    refine Or.inl ⟨v, ⟨(({ U with heap := s₂.heap, slotsUsed := s₂.slotsUsed } : State).setVm s₂.vm), Ls ++ L, c0 + mc, s0 + ms⟩,
      ⟨X.admits, X.cas, X.clock, X.frames, X.room, X.hears, X.method, X.code, (X.here.setHeapUsed s₂.heap s₂.slotsUsed).setVm hW'.alike, X.tail, State.WarmedH.trans X.warmed hW', X.limits, X.bytes, X.same.trans (hsame.setVm s.vm)⟩,
      ⟨g, mk, s₂, L, rfl, rfl, hqc, rfl, hL, rfl, rfl⟩, ?_⟩
    show Steps p.tables e below _ ((({ U with heap := s₂.heap, slotsUsed := s₂.slotsUsed } : State).setVm s₂.vm).setTop { g with pc := g.pc + len₂, stack := v.toList ++ g.stack })
    rw [← hs₂]
    exact hsteps
  · obtain ⟨e2, q2, q3, q4, q5, q6⟩ := id hsm
    have e3 : s₂ = ({ (U.calling g mk a).setFrames s₂.frames with heap := s₂.heap, slotsUsed := s₂.slotsUsed } : State).setVm s₂.vm := by
      have : s₂ = ({ s₂ with vm := (U.calling g mk a).vm } : State).setVm s₂.vm := rfl
      rw [e2] at this
      exact this
    have hf₂ : s₂.frames = .throwing q :: .java g :: U.frames.tail := hend
    have hW' : U.WarmedH s₂.vm := hW₂
    have hs₂ : s₂ = ((({ U with heap := s₂.heap, slotsUsed := s₂.slotsUsed } : State).setVm s₂.vm).setTop g).pushFrame (.throwing q) := by
      refine e3.trans ?_
      rw [hf₂, State.calling_eq h.top, State.setFrames_setFrames, State.pushFrame, State.frames_setTop _ hr', State.setTop_of_frames _ hr', State.setFrames_setFrames, hr]
      rfl
    have hsame : U.sameButNew ({ U with heap := s₂.heap, slotsUsed := s₂.slotsUsed } : State) L mc ms := by
      refine ⟨?_, q2, q3, q4, q5, q6⟩
      obtain ⟨t, ht, -⟩ := State.frames_cons hr
      show ({ U with heap := s₂.heap, slotsUsed := s₂.slotsUsed } : State) = { U.setFrames U.frames with heap := s₂.heap, slotsUsed := s₂.slotsUsed }
      rw [State.setFrames_self ht]
    subst hg
    refine Or.inr ⟨q, ⟨(({ U with heap := s₂.heap, slotsUsed := s₂.slotsUsed } : State).setVm s₂.vm), Ls ++ L, c0 + mc, s0 + ms⟩,
      ⟨X.admits, X.cas, X.clock, X.frames, X.room, X.hears, X.method, X.code, (X.here.setHeapUsed s₂.heap s₂.slotsUsed).setVm hW'.alike, X.tail, State.WarmedH.trans X.warmed hW', X.limits, X.bytes, X.same.trans (hsame.setVm s.vm)⟩,
      ⟨g, mk, s₂, L, E, ce, rfl, rfl, hx, hce, hcv, hcl, rfl, hL, rfl, rfl⟩, ?_⟩
    show Steps p.tables e below _ (((({ U with heap := s₂.heap, slotsUsed := s₂.slotsUsed } : State).setVm s₂.vm).setTop g).pushFrame (.throwing q))
    rw [← hs₂]
    exact hsteps
end Payer
section Calls
variable {p : Program} {l : Launch} {e : Env} {R : Room} {s : State} {m : MethodId} {args : Array Value} {below : List Frame} {meth : Method} {c : Code} {T : State} {locs : List Loc} {cells slots : Nat}
theorem vx_callV (X : Stand p l e R s m args below meth c T locs cells slots) (hexec : p.tables.exec = Jvm.exec) {own C : String} {index : Nat} {y : MethodName} {bytes : ByteArray} {maxL : Nat} {ret : Option FieldType}
    (hown : s.vm.findClass own = some m.cls) (hlink : (Cond.methodLink own index y).before args s = true) (hinst : (Cond.instanceMethod y).before args s = true) (hsel : (Cond.selects C y y).before args s = true)
    (hcode : (Cond.code y bytes maxL ret).before args s = true) (hy : y.cls ≠ "java/lang/invoke/MethodHandle" ∧ y.cls ≠ "java/lang/invoke/VarHandle")
    {W9 : Nat} {Pre : Pt → Array Value → Prop} {Post : Pt → Array Value → Option Value → Pt → Prop} {PostX : Pt → Array Value → Addr → Pt → Prop} (hK : vx_Back l R p e below s args y 3 W9 Pre Post PostX)
    {b : Addr} {cellB : Cell} (hcell : T.heap[b]? = some cellB) (hobj : cellB.vm.isStatics = false) (hcls : s.vm.findClass C = some cellB.cls)
    {g : JFrame} (hg : g.method = m) (hsize : g.locals.size = c.maxLocals) {argsL rest : List Value} (hlen : ∀ sig, parseMethodDescriptor y.desc = some sig → argsL.length = sig.parameters.length)
    (hstack : g.stack = argsL.reverse ++ .ref b :: rest) (hW : 2 * g.monitorRoom + (rest.map fun v => v.category).sum ≤ W9) (hdg : decode c.code g.pc = .ok (.invokevirtual index, 3))
    (hpre : ∀ vm₁, s.WarmedH vm₁ → Pre ⟨T.setVm vm₁, locs, cells, slots⟩ (Value.ref b :: argsL).toArray) :
    (∃ (v : Option Value) (vm₁ : Vm) (B : Pt), s.WarmedH vm₁ ∧ Stand p l e R s m args below meth c B.U B.locs B.cells B.slots ∧ Post ⟨T.setVm vm₁, locs, cells, slots⟩ (Value.ref b :: argsL).toArray v B ∧
      ∀ target, Steps p.tables e below (B.U.setTop { g with pc := g.pc + 3, stack := v.toList ++ rest }) target → Steps p.tables e below (T.setTop g) target) ∨
    (∃ (q : Addr) (vm₁ : Vm) (B : Pt), s.WarmedH vm₁ ∧ Stand p l e R s m args below meth c B.U B.locs B.cells B.slots ∧ PostX ⟨T.setVm vm₁, locs, cells, slots⟩ (Value.ref b :: argsL).toArray q B ∧
      Steps p.tables e below (T.setTop g) ((B.U.setTop { g with stack := rest }).pushFrame (.throwing q))) := by
  obtain ⟨mk, methM, hnamed, hmethM, hstM, habM⟩ := Cond.instanceMethod_spec hinst
  obtain ⟨methM', cM, hmethM', -, -, -, -, -, -, hsigM⟩ := Cond.code_spec hnamed hcode
  cases hmethM.symm.trans hmethM'
  obtain ⟨c2, r2, m2, q1, q2, q3, q4, kP, hkP, hkPi⟩ := Cond.selects_spec hsel
  cases hcls.symm.trans q1
  cases (State.methodFound?_of_named hnamed hy).symm.trans q2
  cases hnamed.symm.trans q3
  have hselP : selectMethod e.platform s.vm cellB.cls mk = .method mk := by rw [Launch.admits_selectMethod X.admits]; exact q4
  obtain ⟨vm₁, X₁, hstep₁⟩ := X.invokevirtual hexec hown hlink hnamed hmethM hstM hkP hkPi hy (a := b) (cell := cellB) hcell
    (fun z h => by rw [h] at hobj; cases hobj) hselP hmethM habM hkP hkPi (g := g) hg (argsL := argsL) (rest := rest) (hlen _ hsigM) hstack hdg
  rcases hK m meth c ⟨T.setVm vm₁, locs, cells, slots⟩ { g with stack := rest } (.invokevirtual index) mk (Value.ref b :: argsL).toArray X₁ hg hsize hdg hW (X₁.named hnamed) (hpre vm₁ X₁.warmed) with ⟨v, B, X', hpost, hsteps⟩ | ⟨q, B, X', hpost, hsteps⟩
  · exact Or.inl ⟨v, vm₁, B, X₁.warmed, X', hpost, fun target h => hstep₁ _ fun acts => by rw [doInvoke_state]; exact hsteps.trans h⟩
  · exact Or.inr ⟨q, vm₁, B, X₁.warmed, X', hpost, hstep₁ _ fun acts => by rw [doInvoke_state]; exact hsteps⟩
theorem vx_callS (X : Stand p l e R s m args below meth c T locs cells slots) (hexec : p.tables.exec = Jvm.exec) {own : String} {index : Nat} {y : MethodName} {bytes : ByteArray} {maxL : Nat} {ret : Option FieldType}
    (hown : s.vm.findClass own = some m.cls) (hlink : (Cond.methodLink own index y).before args s = true) (hstat : (Cond.static y).before args s = true) (hinit : (Cond.initialized y.cls).before args s = true)
    (hcode : (Cond.code y bytes maxL ret).before args s = true) (hy : y.cls ≠ "java/lang/invoke/MethodHandle" ∧ y.cls ≠ "java/lang/invoke/VarHandle")
    {W9 : Nat} {Pre : Pt → Array Value → Prop} {Post : Pt → Array Value → Option Value → Pt → Prop} {PostX : Pt → Array Value → Addr → Pt → Prop} (hK : vx_Back l R p e below s args y 3 W9 Pre Post PostX)
    {g : JFrame} (hg : g.method = m) (hsize : g.locals.size = c.maxLocals) {argsL rest : List Value} (hlen : ∀ sig, parseMethodDescriptor y.desc = some sig → argsL.length = sig.parameters.length)
    (hstack : g.stack = argsL.reverse ++ rest) (hW : 2 * g.monitorRoom + (rest.map fun v => v.category).sum ≤ W9) (hdg : decode c.code g.pc = .ok (.invokestatic index, 3))
    (hpre : ∀ vm₁, s.WarmedH vm₁ → Pre ⟨T.setVm vm₁, locs, cells, slots⟩ argsL.toArray) :
    (∃ (v : Option Value) (vm₁ : Vm) (B : Pt), s.WarmedH vm₁ ∧ Stand p l e R s m args below meth c B.U B.locs B.cells B.slots ∧ Post ⟨T.setVm vm₁, locs, cells, slots⟩ argsL.toArray v B ∧
      ∀ target, Steps p.tables e below (B.U.setTop { g with pc := g.pc + 3, stack := v.toList ++ rest }) target → Steps p.tables e below (T.setTop g) target) ∨
    (∃ (q : Addr) (vm₁ : Vm) (B : Pt), s.WarmedH vm₁ ∧ Stand p l e R s m args below meth c B.U B.locs B.cells B.slots ∧ PostX ⟨T.setVm vm₁, locs, cells, slots⟩ argsL.toArray q B ∧
      Steps p.tables e below (T.setTop g) ((B.U.setTop { g with stack := rest }).pushFrame (.throwing q))) := by
  obtain ⟨mk, hnamed⟩ := Cond.code_named hcode
  obtain ⟨methM, cM, hmethM, -, -, -, -, -, -, hsigM⟩ := Cond.code_spec hnamed hcode
  have hstatic : methM.isStatic = true := Cond.static_spec hnamed hmethM hstat
  obtain ⟨kP, hkP, -⟩ := className_of_methodNamed hnamed
  have hinitP : kP.init = .initialized := Cond.initialized_spec (findClass_of_methodNamed hnamed) hkP hinit
  obtain ⟨vm₁, X₁, hstep₁⟩ := X.invokestatic hexec hown hlink hnamed hmethM hstatic hkP hinitP hy (g := g) hg (argsL := argsL) (rest := rest) (hlen _ hsigM) hstack hdg
  rcases hK m meth c ⟨T.setVm vm₁, locs, cells, slots⟩ { g with stack := rest } (.invokestatic index) mk argsL.toArray X₁ hg hsize hdg hW (X₁.named hnamed) (hpre vm₁ X₁.warmed) with ⟨v, B, X', hpost, hsteps⟩ | ⟨q, B, X', hpost, hsteps⟩
  · exact Or.inl ⟨v, vm₁, B, X₁.warmed, X', hpost, fun target h => hstep₁ _ fun acts => by rw [doInvoke_state]; exact hsteps.trans h⟩
  · exact Or.inr ⟨q, vm₁, B, X₁.warmed, X', hpost, hstep₁ _ fun acts => by rw [doInvoke_state]; exact hsteps⟩
end Calls
theorem vx_cls {s : State} {T : State} {vm₁ : Vm} {E : String} {k : ClassId} (hW : s.WarmedH vm₁) (h : (T.setVm vm₁).vm.findClass E = some k) : s.vm.findClass E = some k := by
  have h1 : vm₁.findClass E = some k := h
  rw [hW.alike.findClass] at h1
  exact h1
/-- the method's frame g, with q thrown over it -/
def vx_W (p : Program) (l : Launch) (e : Env) (R : Room) (s : State) (m : MethodId) (args : Array Value) (below : List Frame) (meth : Method) (c : Code) (H : Heap) (locs : List Loc) (cells slots : Nat) (Q : State → Prop) (g : JFrame) (q : Addr) : Prop :=
  ∀ T : State, T.heap = H → Stand p l e R s m args below meth c T locs cells slots → ∃ t, Steps p.tables e below ((T.setTop g).pushFrame (.throwing q)) t ∧ Q t
def vx_Run (p : Program) (l : Launch) (e : Env) (R : Room) (s : State) (m : MethodId) (args : Array Value) (below : List Frame) (meth : Method) (c : Code) (H : Heap) (locs : List Loc) (cells slots mc ms : Nat) (g : JFrame) (rest : List Value) (Qa : State → Outcome → State → Prop) (XC : String → State → State → Prop) (free : Addr → Prop) : Prop :=
  ∀ T : State, T.heap = H → Stand p l e R s m args below meth c T locs cells slots →
    (∃ (v : Option Value) (st₀ t T' : State) (L : List Loc), st₀.heap = H ∧ Stand p l e R s m args below meth c T' (locs ++ L) (cells + mc) (slots + ms) ∧ (∀ q ∈ L, free q.base) ∧ T'.heap = t.heap ∧ T'.vm = t.vm ∧ Qa st₀ (.returned v) t ∧
      Goes p e below T g T' { g with pc := g.pc + 3, stack := v.toList ++ rest }) ∨
    (∃ (q : Addr) (st₀ t T' : State) (L : List Loc) (E : String) (ce : Cell), st₀.heap = H ∧ Stand p l e R s m args below meth c T' (locs ++ L) (cells + mc) (slots + ms) ∧ (∀ z ∈ L, free z.base) ∧ T'.heap = t.heap ∧ T'.vm = t.vm ∧ XC E st₀ t ∧ t.heap[q]? = some ce ∧ ce.vm = .none ∧ s.vm.findClass E = some ce.cls ∧
      Steps p.tables e below (T.setTop g) ((T'.setTop { g with stack := rest }).pushFrame (.throwing q)))
def vx_X {S : Type} (px : S → Prop) (B : String → S → State → Prop) (A : Nat → Prop) : String → State → State → Prop := fun E st t => ∃ u : S, px u ∧ B E u t ∧ va_F A st t
section Runs
variable {p : Program} {l : Launch} {e : Env} {R : Room} {s : State} {m : MethodId} {args : Array Value} {below : List Frame} {meth : Method} {c : Code} {H : Heap} {locs : List Loc} {cells slots : Nat}
variable {y : MethodName} {bytes cc : ByteArray} {maxL nL mc ms n index : Nat} {ret : Option FieldType} {ws : List Cond} {rm : Room} {Pc : Array Value → State → Prop} {Qc : Array Value → State → Outcome → State → Prop} {XC : String → State → State → Prop} {free : Addr → Prop} {Ts : List Cond} {own C : String} {b : Addr} {As rest : List Value} {g : JFrame}
theorem vx_callBack (cb : CallB R s args own index y bytes maxL ret ws rm mc ms n) (hM : vx_Met l y ws rm Pc Qc XC mc ms free) (hbl : FrameBlind Pc) : vx_Back l R p e below s args y 3 8 (PreOf R mc ms Pc) (PostOf Qc mc ms free) (vx_Post XC mc ms free) := by
  obtain ⟨hrc, hrs, hfr, hlo, hws, hcw, -, hini, -⟩ := cb
  exact vx_back (bytes := bytes) (maxL := maxL) (ret := ret) hM hbl hrc hrs hfr hlo hws hcw (fun a' U hW => word_at hW (Or.inl (by first | rfl | simp [Cond.onTables, Cond.keeps, Cond.steady])) hini)
theorem vx_runV (S : CallFix p m c cc nL s args Ts own) (hM : vx_Met l y ws rm Pc Qc XC mc ms free) (cw : CallW R s args own C index y bytes maxL ret ws rm mc ms n) (hp : PreV s H C b Pc As)
    (hg : g.method = m) (hn : As.length = n) (hsize : g.locals.size = nL) (hstack : g.stack = As.reverse ++ .ref b :: rest) (hW : 2 * g.monitorRoom + (rest.map fun v => v.category).sum ≤ 8) (hdg : decode cc g.pc = .ok (.invokevirtual index, 3)) (hf : cells + mc ≤ R.cells ∧ slots + ms ≤ R.slots) :
    vx_Run p l e R s m args below meth c H locs cells slots mc ms g rest (Qc (Value.ref b :: As).toArray) XC free := by
  have hK : vx_Back l R p e below s args y 3 8 (PreOf R mc ms Pc) (PostOf Qc mc ms free) (vx_Post XC mc ms free) := vx_callBack cw.1 hM hp.1
  obtain ⟨⟨-, -, -, -, -, -, hcode, -, hy, hlen, hl⟩, hin, hse⟩ := cw
  obtain ⟨hx, hb, hml, ho, -⟩ := S
  obtain ⟨-, ⟨cellB, hcB, hoB, hclB⟩, hPc⟩ := hp
  intro T hT X
  rcases vx_callV X hx (C := C) (bytes := bytes) (maxL := maxL) (ret := ret) ho hl hin hse hcode hy hK (by rw [hT]; exact hcB) hoB hclB hg (hsize.trans hml.symm) (argsL := As) (rest := rest) (fun sig h => hn.trans (hlen sig h)) hstack hW (by rw [hb]; exact hdg)
    (fun vm₁ hW₁ => ⟨hf.1, hf.2, hPc (T.setVm vm₁) hT hW₁⟩) with ⟨v, vm₁, ⟨U', l2, c2, s2⟩, hW₁, X', ⟨g', mk, t, L, e1, e2, hq, h1, hL, h2, h3⟩, st⟩ | ⟨q, vm₁, ⟨U', l2, c2, s2⟩, hW₁, X', ⟨g', mk, t, L, E, ce, e1, e2, hq, hce, hcv, hcl, h1, hL, h2, h3⟩, st⟩
  · dsimp only [Pt.U, Pt.locs, Pt.cells, Pt.slots] at X' e1 e2 h1 h2 h3 st
    subst h1; subst h2; subst h3
    exact Or.inl ⟨v, (T.setVm vm₁).calling g' mk (Value.ref b :: As).toArray, t, U', L, hT, X', hL, e1, e2, hq, st⟩
  · dsimp only [Pt.U, Pt.locs, Pt.cells, Pt.slots] at X' e1 e2 h1 h2 h3 st hcl
    subst h1; subst h2; subst h3
    exact Or.inr ⟨q, (T.setVm vm₁).calling g' mk (Value.ref b :: As).toArray, t, U', L, E, ce, hT, X', hL, e1, e2, hq, hce, hcv, vx_cls hW₁ hcl, st⟩
theorem vx_runS (S : CallFix p m c cc nL s args Ts own) (hM : vx_Met l y ws rm Pc Qc XC mc ms free) (cw : CallB R s args own index y bytes maxL ret ws rm mc ms n ∧ (Cond.static y).before args s = true) (hp : PreS s H Pc As)
    (hg : g.method = m) (hn : As.length = n) (hsize : g.locals.size = nL) (hstack : g.stack = As.reverse ++ rest) (hW : 2 * g.monitorRoom + (rest.map fun v => v.category).sum ≤ 8) (hdg : decode cc g.pc = .ok (.invokestatic index, 3)) (hf : cells + mc ≤ R.cells ∧ slots + ms ≤ R.slots) :
    vx_Run p l e R s m args below meth c H locs cells slots mc ms g rest (Qc As.toArray) XC free := by
  have hK : vx_Back l R p e below s args y 3 8 (PreOf R mc ms Pc) (PostOf Qc mc ms free) (vx_Post XC mc ms free) := vx_callBack cw.1 hM hp.1
  obtain ⟨⟨-, -, -, -, -, -, hcode, hini, hy, hlen, hl⟩, hstt⟩ := cw
  obtain ⟨hx, hb, hml, ho, -⟩ := S
  intro T hT X
  rcases vx_callS X hx (bytes := bytes) (maxL := maxL) (ret := ret) ho hl hstt hini hcode hy hK hg (hsize.trans hml.symm) (argsL := As) (rest := rest) (fun sig h => hn.trans (hlen sig h)) hstack hW (by rw [hb]; exact hdg)
    (fun vm₁ hW₁ => ⟨hf.1, hf.2, hp.2 (T.setVm vm₁) hT hW₁⟩) with ⟨v, vm₁, ⟨U', l2, c2, s2⟩, hW₁, X', ⟨g', mk, t, L, e1, e2, hq, h1, hL, h2, h3⟩, st⟩ | ⟨q, vm₁, ⟨U', l2, c2, s2⟩, hW₁, X', ⟨g', mk, t, L, E, ce, e1, e2, hq, hce, hcv, hcl, h1, hL, h2, h3⟩, st⟩
  · dsimp only [Pt.U, Pt.locs, Pt.cells, Pt.slots] at X' e1 e2 h1 h2 h3 st
    subst h1; subst h2; subst h3
    exact Or.inl ⟨v, (T.setVm vm₁).calling g' mk As.toArray, t, U', L, hT, X', hL, e1, e2, hq, st⟩
  · dsimp only [Pt.U, Pt.locs, Pt.cells, Pt.slots] at X' e1 e2 h1 h2 h3 st hcl
    subst h1; subst h2; subst h3
    exact Or.inr ⟨q, (T.setVm vm₁).calling g' mk As.toArray, t, U', L, E, ce, hT, X', hL, e1, e2, hq, hce, hcv, vx_cls hW₁ hcl, st⟩
end Runs
section Rows
variable {p : Program} {l : Launch} {e : Env} {R : Room} {s : State} {m : MethodId} {args : Array Value} {below : List Frame} {meth : Method} {c : Code} {H : Heap} {locs : List Loc} {cells slots : Nat} {Q : State → Prop}
variable {mc ms : Nat} {free : Addr → Prop} {A0 A1 : Nat → Prop} {H0 : Heap} {a : Array Value} {pc : Nat} {ls : Array Slot} {st0 rest : List Value}
theorem vx_keep {st₀ t T' : State} {L : List Loc} (h0 : st₀.heap = H) (e1 : T'.heap = t.heap) (hS : va_S A0 H0 H locs) (hA : ∀ q, q < H.size → A1 q → A0 q) (hf : ∀ q, free q → A0 q) (hL : ∀ q ∈ L, free q.base) (hF : va_F A1 st₀ t) :
    H.size ≤ T'.heap.size ∧ (∀ q : Nat, q < H.size → ¬ A1 q → T'.heap[q]? = H[q]?) ∧ va_S A0 H0 T'.heap (locs ++ L) := by
  obtain ⟨hz, hk⟩ := hF
  rw [h0] at hz hk
  exact ⟨by rw [e1]; exact hz, fun q h1 h2 => by rw [e1]; exact hk q h1 h2,
    ⟨Nat.le_trans hS.1 (by rw [e1]; exact hz), fun q h1 h2 => by rw [e1, hk q (Nat.lt_of_lt_of_le h1 hS.1) (fun z => h2 (hA q (Nat.lt_of_lt_of_le h1 hS.1) z))]; exact hS.2.1 q h1 h2, fun q hq => by
      rcases List.mem_append.mp hq with h | h
      · exact hS.2.2 q h
      · exact hf _ (hL q h)⟩⟩
theorem vx_calli {S SX : Type} {post : Int32 → S → Prop} {px : SX → Prop} {B : S → State → Prop} {BX : String → SX → State → Prop} {AX : Nat → Prop} (hr : vx_Run p l e R s m args below meth c H locs cells slots mc ms (F0 m pc ls st0) rest (va_Qi post B A1 a) (vx_X px BX AX) free) (hS : va_S A0 H0 H locs) (hA : ∀ q, q < H.size → A1 q → A0 q) (hf : ∀ q, free q → A0 q) (hAX : ∀ q, q < H.size → AX q → A0 q)
    (kx : ∀ (E : String) (ce : Cell) (q9 : Addr) (u : SX) (t : State) (H1 : Heap) (locs1 : List Loc), t.heap = H1 → s.vm.Alike t.vm → px u → BX E u t → H.size ≤ H1.size → (∀ q : Nat, q < H.size → ¬ AX q → H1[q]? = H[q]?) → va_S A0 H0 H1 locs1 → H1[q9]? = some ce → ce.vm = .none → s.vm.findClass E = some ce.cls → vx_W p l e R s m args below meth c H1 locs1 (cells + mc) (slots + ms) Q (F0 m pc ls rest) q9)
    (kk : ∀ (r : Int32) (u : S) (t : State) (H1 : Heap) (locs1 : List Loc), t.heap = H1 → s.vm.Alike t.vm → post r u → B u t → H.size ≤ H1.size → (∀ q : Nat, q < H.size → ¬ A1 q → H1[q]? = H[q]?) → va_S A0 H0 H1 locs1 → W p l e R s m args below meth c H1 locs1 (cells + mc) (slots + ms) Q (F0 m (pc + 3) ls (.int r :: rest))) : W p l e R s m args below meth c H locs cells slots Q (F0 m pc ls st0) := by
  intro T hT X
  rcases hr T hT X with ⟨v, st₀, t, T', L, h0, X', hL, e1, e2, ⟨⟨r, u, hv, hp, hb⟩, hF⟩, st⟩ | ⟨q, st₀, t, T', L, E, ce, h0, X', hL, e1, e2, ⟨u, hp, hb, hF⟩, hce, hcv, hcl, st⟩
  · cases hv
    obtain ⟨k1, k2, k3⟩ := vx_keep h0 e1 hS hA hf hL hF
    obtain ⟨t2, a1, b1⟩ := kk r u t T'.heap (locs ++ L) e1.symm (by rw [← e2]; exact X'.warmed.alike) hp hb k1 k2 k3 T' rfl X'
    exact ⟨t2, st t2 a1, b1⟩
  · obtain ⟨k1, k2, k3⟩ := vx_keep h0 e1 hS hAX hf hL hF
    obtain ⟨t2, a1, b1⟩ := kx E ce q u t T'.heap (locs ++ L) e1.symm (by rw [← e2]; exact X'.warmed.alike) hp hb k1 k2 k3 (by rw [e1]; exact hce) hcv hcl T' rfl X'
    exact ⟨t2, st.trans a1, b1⟩
theorem vx_calll {S SX : Type} {post : Int64 → S → Prop} {px : SX → Prop} {B : S → State → Prop} {BX : String → SX → State → Prop} {AX : Nat → Prop} (hr : vx_Run p l e R s m args below meth c H locs cells slots mc ms (F0 m pc ls st0) rest (va_Ql post B A1 a) (vx_X px BX AX) free) (hS : va_S A0 H0 H locs) (hA : ∀ q, q < H.size → A1 q → A0 q) (hf : ∀ q, free q → A0 q) (hAX : ∀ q, q < H.size → AX q → A0 q)
    (kx : ∀ (E : String) (ce : Cell) (q9 : Addr) (u : SX) (t : State) (H1 : Heap) (locs1 : List Loc), t.heap = H1 → s.vm.Alike t.vm → px u → BX E u t → H.size ≤ H1.size → (∀ q : Nat, q < H.size → ¬ AX q → H1[q]? = H[q]?) → va_S A0 H0 H1 locs1 → H1[q9]? = some ce → ce.vm = .none → s.vm.findClass E = some ce.cls → vx_W p l e R s m args below meth c H1 locs1 (cells + mc) (slots + ms) Q (F0 m pc ls rest) q9)
    (kk : ∀ (r : Int64) (u : S) (t : State) (H1 : Heap) (locs1 : List Loc), t.heap = H1 → s.vm.Alike t.vm → post r u → B u t → H.size ≤ H1.size → (∀ q : Nat, q < H.size → ¬ A1 q → H1[q]? = H[q]?) → va_S A0 H0 H1 locs1 → W p l e R s m args below meth c H1 locs1 (cells + mc) (slots + ms) Q (F0 m (pc + 3) ls (.long r :: rest))) : W p l e R s m args below meth c H locs cells slots Q (F0 m pc ls st0) := by
  intro T hT X
  rcases hr T hT X with ⟨v, st₀, t, T', L, h0, X', hL, e1, e2, ⟨⟨r, u, hv, hp, hb⟩, hF⟩, st⟩ | ⟨q, st₀, t, T', L, E, ce, h0, X', hL, e1, e2, ⟨u, hp, hb, hF⟩, hce, hcv, hcl, st⟩
  · cases hv
    obtain ⟨k1, k2, k3⟩ := vx_keep h0 e1 hS hA hf hL hF
    obtain ⟨t2, a1, b1⟩ := kk r u t T'.heap (locs ++ L) e1.symm (by rw [← e2]; exact X'.warmed.alike) hp hb k1 k2 k3 T' rfl X'
    exact ⟨t2, st t2 a1, b1⟩
  · obtain ⟨k1, k2, k3⟩ := vx_keep h0 e1 hS hAX hf hL hF
    obtain ⟨t2, a1, b1⟩ := kx E ce q u t T'.heap (locs ++ L) e1.symm (by rw [← e2]; exact X'.warmed.alike) hp hb k1 k2 k3 (by rw [e1]; exact hce) hcv hcl T' rfl X'
    exact ⟨t2, st.trans a1, b1⟩
theorem vx_callf {S SX : Type} {post : UInt32 → S → Prop} {px : SX → Prop} {B : S → State → Prop} {BX : String → SX → State → Prop} {AX : Nat → Prop} (hr : vx_Run p l e R s m args below meth c H locs cells slots mc ms (F0 m pc ls st0) rest (va_Qf post B A1 a) (vx_X px BX AX) free) (hS : va_S A0 H0 H locs) (hA : ∀ q, q < H.size → A1 q → A0 q) (hf : ∀ q, free q → A0 q) (hAX : ∀ q, q < H.size → AX q → A0 q)
    (kx : ∀ (E : String) (ce : Cell) (q9 : Addr) (u : SX) (t : State) (H1 : Heap) (locs1 : List Loc), t.heap = H1 → s.vm.Alike t.vm → px u → BX E u t → H.size ≤ H1.size → (∀ q : Nat, q < H.size → ¬ AX q → H1[q]? = H[q]?) → va_S A0 H0 H1 locs1 → H1[q9]? = some ce → ce.vm = .none → s.vm.findClass E = some ce.cls → vx_W p l e R s m args below meth c H1 locs1 (cells + mc) (slots + ms) Q (F0 m pc ls rest) q9)
    (kk : ∀ (r : UInt32) (u : S) (t : State) (H1 : Heap) (locs1 : List Loc), t.heap = H1 → s.vm.Alike t.vm → post r u → B u t → H.size ≤ H1.size → (∀ q : Nat, q < H.size → ¬ A1 q → H1[q]? = H[q]?) → va_S A0 H0 H1 locs1 → W p l e R s m args below meth c H1 locs1 (cells + mc) (slots + ms) Q (F0 m (pc + 3) ls (.float r :: rest))) : W p l e R s m args below meth c H locs cells slots Q (F0 m pc ls st0) := by
  intro T hT X
  rcases hr T hT X with ⟨v, st₀, t, T', L, h0, X', hL, e1, e2, ⟨⟨r, u, hv, hp, hb⟩, hF⟩, st⟩ | ⟨q, st₀, t, T', L, E, ce, h0, X', hL, e1, e2, ⟨u, hp, hb, hF⟩, hce, hcv, hcl, st⟩
  · cases hv
    obtain ⟨k1, k2, k3⟩ := vx_keep h0 e1 hS hA hf hL hF
    obtain ⟨t2, a1, b1⟩ := kk r u t T'.heap (locs ++ L) e1.symm (by rw [← e2]; exact X'.warmed.alike) hp hb k1 k2 k3 T' rfl X'
    exact ⟨t2, st t2 a1, b1⟩
  · obtain ⟨k1, k2, k3⟩ := vx_keep h0 e1 hS hAX hf hL hF
    obtain ⟨t2, a1, b1⟩ := kx E ce q u t T'.heap (locs ++ L) e1.symm (by rw [← e2]; exact X'.warmed.alike) hp hb k1 k2 k3 (by rw [e1]; exact hce) hcv hcl T' rfl X'
    exact ⟨t2, st.trans a1, b1⟩
theorem vx_calld {S SX : Type} {post : UInt64 → S → Prop} {px : SX → Prop} {B : S → State → Prop} {BX : String → SX → State → Prop} {AX : Nat → Prop} (hr : vx_Run p l e R s m args below meth c H locs cells slots mc ms (F0 m pc ls st0) rest (va_Qd post B A1 a) (vx_X px BX AX) free) (hS : va_S A0 H0 H locs) (hA : ∀ q, q < H.size → A1 q → A0 q) (hf : ∀ q, free q → A0 q) (hAX : ∀ q, q < H.size → AX q → A0 q)
    (kx : ∀ (E : String) (ce : Cell) (q9 : Addr) (u : SX) (t : State) (H1 : Heap) (locs1 : List Loc), t.heap = H1 → s.vm.Alike t.vm → px u → BX E u t → H.size ≤ H1.size → (∀ q : Nat, q < H.size → ¬ AX q → H1[q]? = H[q]?) → va_S A0 H0 H1 locs1 → H1[q9]? = some ce → ce.vm = .none → s.vm.findClass E = some ce.cls → vx_W p l e R s m args below meth c H1 locs1 (cells + mc) (slots + ms) Q (F0 m pc ls rest) q9)
    (kk : ∀ (r : UInt64) (u : S) (t : State) (H1 : Heap) (locs1 : List Loc), t.heap = H1 → s.vm.Alike t.vm → post r u → B u t → H.size ≤ H1.size → (∀ q : Nat, q < H.size → ¬ A1 q → H1[q]? = H[q]?) → va_S A0 H0 H1 locs1 → W p l e R s m args below meth c H1 locs1 (cells + mc) (slots + ms) Q (F0 m (pc + 3) ls (.double r :: rest))) : W p l e R s m args below meth c H locs cells slots Q (F0 m pc ls st0) := by
  intro T hT X
  rcases hr T hT X with ⟨v, st₀, t, T', L, h0, X', hL, e1, e2, ⟨⟨r, u, hv, hp, hb⟩, hF⟩, st⟩ | ⟨q, st₀, t, T', L, E, ce, h0, X', hL, e1, e2, ⟨u, hp, hb, hF⟩, hce, hcv, hcl, st⟩
  · cases hv
    obtain ⟨k1, k2, k3⟩ := vx_keep h0 e1 hS hA hf hL hF
    obtain ⟨t2, a1, b1⟩ := kk r u t T'.heap (locs ++ L) e1.symm (by rw [← e2]; exact X'.warmed.alike) hp hb k1 k2 k3 T' rfl X'
    exact ⟨t2, st t2 a1, b1⟩
  · obtain ⟨k1, k2, k3⟩ := vx_keep h0 e1 hS hAX hf hL hF
    obtain ⟨t2, a1, b1⟩ := kx E ce q u t T'.heap (locs ++ L) e1.symm (by rw [← e2]; exact X'.warmed.alike) hp hb k1 k2 k3 (by rw [e1]; exact hce) hcv hcl T' rfl X'
    exact ⟨t2, st.trans a1, b1⟩
theorem vx_callv {S SX : Type} {post : S → Prop} {px : SX → Prop} {B : S → State → Prop} {BX : String → SX → State → Prop} {AX : Nat → Prop} (hr : vx_Run p l e R s m args below meth c H locs cells slots mc ms (F0 m pc ls st0) rest (va_Qv post B A1 a) (vx_X px BX AX) free) (hS : va_S A0 H0 H locs) (hA : ∀ q, q < H.size → A1 q → A0 q) (hf : ∀ q, free q → A0 q) (hAX : ∀ q, q < H.size → AX q → A0 q)
    (kx : ∀ (E : String) (ce : Cell) (q9 : Addr) (u : SX) (t : State) (H1 : Heap) (locs1 : List Loc), t.heap = H1 → s.vm.Alike t.vm → px u → BX E u t → H.size ≤ H1.size → (∀ q : Nat, q < H.size → ¬ AX q → H1[q]? = H[q]?) → va_S A0 H0 H1 locs1 → H1[q9]? = some ce → ce.vm = .none → s.vm.findClass E = some ce.cls → vx_W p l e R s m args below meth c H1 locs1 (cells + mc) (slots + ms) Q (F0 m pc ls rest) q9)
    (kk : ∀ (u : S) (t : State) (H1 : Heap) (locs1 : List Loc), t.heap = H1 → s.vm.Alike t.vm → post u → B u t → H.size ≤ H1.size → (∀ q : Nat, q < H.size → ¬ A1 q → H1[q]? = H[q]?) → va_S A0 H0 H1 locs1 → W p l e R s m args below meth c H1 locs1 (cells + mc) (slots + ms) Q (F0 m (pc + 3) ls (rest))) : W p l e R s m args below meth c H locs cells slots Q (F0 m pc ls st0) := by
  intro T hT X
  rcases hr T hT X with ⟨v, st₀, t, T', L, h0, X', hL, e1, e2, ⟨⟨u, hv, hp, hb⟩, hF⟩, st⟩ | ⟨q, st₀, t, T', L, E, ce, h0, X', hL, e1, e2, ⟨u, hp, hb, hF⟩, hce, hcv, hcl, st⟩
  · cases hv
    obtain ⟨k1, k2, k3⟩ := vx_keep h0 e1 hS hA hf hL hF
    obtain ⟨t2, a1, b1⟩ := kk u t T'.heap (locs ++ L) e1.symm (by rw [← e2]; exact X'.warmed.alike) hp hb k1 k2 k3 T' rfl X'
    exact ⟨t2, st t2 a1, b1⟩
  · obtain ⟨k1, k2, k3⟩ := vx_keep h0 e1 hS hAX hf hL hF
    obtain ⟨t2, a1, b1⟩ := kx E ce q u t T'.heap (locs ++ L) e1.symm (by rw [← e2]; exact X'.warmed.alike) hp hb k1 k2 k3 (by rw [e1]; exact hce) hcv hcl T' rfl X'
    exact ⟨t2, st.trans a1, b1⟩
/-- caught by the row x of this method's table; the rows ahead don't take it -/
theorem vx_catch {own name : String} {E : String} {ce : Cell} {q : Addr} (hown : s.vm.findClass own = some m.cls) (pre : List ExceptionTableEntry) (x : ExceptionTableEntry) (suf : List ExceptionTableEntry) (hsplit : c.exceptionTable.toList = pre ++ x :: suf)
    (hpass : ∀ z ∈ pre, covers z pc = false ∨ (z.catchType ≠ 0 ∧ ∃ nm : String, (Cond.classLink own z.catchType nm).before args s = true ∧ va_Nc E nm s)) (hx : covers x pc = true) (h0 : x.catchType ≠ 0)
    (hlink : (Cond.classLink own x.catchType name).before args s = true) (hcast : (Cond.castable E name).before args s = true) (hcell : H[q]? = some ce) (hv : ce.vm = .none) (hcl : s.vm.findClass E = some ce.cls)
    (kk : W p l e R s m args below meth c H locs cells slots Q (F0 m x.handlerPc ls [.ref q])) : vx_W p l e R s m args below meth c H locs cells slots Q (F0 m pc ls rest) q := by
  intro T hT X
  have hpl : e.platform.magicAccessors = ({} : Platform).magicAccessors := by rw [X.admits.platform]
  obtain ⟨c3, c4, hc3, hc4, hasg⟩ := Cond.castable_spec hcast
  cases Option.some.inj (hc3.symm.trans hcl)
  obtain ⟨c5, hc5, hcl5⟩ := Cond.classLink_spec hown hlink e.platform hpl
  cases Option.some.inj (hc4.symm.trans hc5)
  obtain ⟨vm', X', st⟩ := xc_caught X q (g := F0 m pc ls rest) rfl (cell := ce) (by rw [hT]; exact hcell) (by rw [hv]; rfl) (by obtain ⟨k9, h9, -⟩ := Vm.findClass_spec hcl; exact ⟨k9, h9⟩) pre x suf hsplit
    (fun z hz => by
      rcases hpass z hz with h | ⟨hz0, nm, hl1, hn1⟩
      · exact Or.inl h
      · obtain ⟨c6, hc6, hcl6⟩ := Cond.classLink_spec hown hl1 e.platform hpl
        obtain ⟨a8, b8, h1, h2, h3⟩ := hn1
        cases Option.some.inj (h1.symm.trans hcl)
        cases Option.some.inj (h2.symm.trans hc6)
        exact Or.inr ⟨hz0, _, hcl6, h3⟩) hx h0 hcl5 hasg
  obtain ⟨t, a1, b1⟩ := kk (T.setVm vm') hT X'
  exact ⟨t, st.trans a1, b1⟩
end Rows
section Ends
variable {p : Program} {l : Launch} {e : Env} {R : Room} {s : State} {m : MethodId} {args : Array Value} {below : List Frame} {meth : Method} {c : Code} {H : Heap} {locs : List Loc} {cells slots : Nat} {Q : State → Prop}
variable {mc ms : Nat} {free : Addr → Prop} {A0 A1 : Nat → Prop} {H0 : Heap} {a : Array Value} {ls : Array Slot} {st0 rest : List Value}
variable {Qc : Array Value → State → Outcome → State → Prop} {XC : String → State → State → Prop}
/-- what a body that may throw owes at its end -/
def vx_MQ (below : List Frame) (Qc : Array Value → State → Outcome → State → Prop) (XC : String → State → State → Prop) (a : Array Value) (s : State) (mc ms : Nat) (free : Addr → Prop) : State → Prop := fun t =>
  ∃ o, t.status = .running ∧ Ended t below o ∧ vx_Q Qc XC mc ms free a s o t
theorem vx_ret {g : JFrame} {mc ms : Nat} (k : W p l e R s m args below meth c H locs cells slots (MQ below Qc args s mc ms free) g) : W p l e R s m args below meth c H locs cells slots (vx_MQ below Qc XC args s mc ms free) g := by
  intro T hT X
  obtain ⟨t, a1, o, b1, b2, b3, b4⟩ := k T hT X
  exact ⟨t, a1, o, b1, b2, Or.inl ⟨b3, b4⟩⟩
/-- not caught here: it goes on to the caller -/
theorem vx_widen {g : JFrame} {q : Addr} {k n : Nat} (h1 : cells ≤ k) (h2 : slots ≤ n) (kk : vx_W p l e R s m args below meth c H locs k n Q g q) : vx_W p l e R s m args below meth c H locs cells slots Q g q := fun T hT X => kk T hT (stand_widen X h1 h2)
theorem vx_out {pc : Nat} {E : String} {ce : Cell} {q : Addr} {mc ms : Nat} (hout : ∀ x ∈ c.exceptionTable.toList, covers x pc = false) (hlocks : meth.locks = false) (hcell : H[q]? = some ce) (hv : ce.vm = .none) (hcl : s.vm.findClass E = some ce.cls)
    (hx : ∀ t : State, t.heap = H → s.vm.Alike t.vm → XC E s t) (hf : ∀ z ∈ locs, free z.base) (hc : cells ≤ mc) (hs : slots ≤ ms) :
    vx_W p l e R s m args below meth c H locs cells slots (vx_MQ below Qc XC args s mc ms free) (F0 m pc ls rest) q := by
  intro T hT X
  obtain ⟨st1, hrun, hend, hW, hsm⟩ := X.leaveThrown q (g := F0 m pc ls rest) rfl rfl rfl hout hlocks
  have hcell9 : (T.setFrames (.throwing q :: below)).heap[q]? = some ce := by
    show T.heap[q]? = some ce
    rw [hT]; exact hcell
  exact ⟨_, st1, .threw q, hrun, hend, Or.inr ⟨q, rfl, E, ce, locs, hx _ hT hW.alike, hcell9, hv, hcl, hW, hsm.mono hc hs, hf⟩⟩
theorem vx_frame {U : State} {k n : Nat} (h : s.sameButNew ({ U with vm := s.vm } : State) locs k n) : s.heap.size ≤ U.heap.size ∧ ∀ q : Nat, q < s.heap.size → (∀ z ∈ locs, z.base ≠ q) → U.heap[q]? = s.heap[q]? := by
  obtain ⟨-, h2, -, -, -, h6⟩ := h
  refine ⟨h2, fun q hq hz => ?_⟩
  obtain ⟨c9, e1, e2, e3, e4⟩ := h6 q _ (Array.getElem?_eq_getElem hq)
  have hs : c9.slots = (s.heap[q]).slots := Array.ext_getElem? fun i => e4 i fun hm => hz _ hm rfl
  have h9 : c9 = s.heap[q] := by
    rw [hs] at e2
    exact e2
  have e5 : U.heap[q]? = some c9 := e1
  rw [e5, h9, Array.getElem?_eq_getElem hq]
/-- the words of a throw but the four that speak of the heap -/
def vx_no (w : Cond) : Bool := decide (w ≠ .isRef (.static Bundle.tN "UNASSIGNED_STACK" Bundle.steD)) && decide (w ≠ .isRef (.static Bundle.tN "SUPPRESSED_SENTINEL" Bundle.listD)) && decide (w ≠ .laysStatic Bundle.tN "UNASSIGNED_STACK" Bundle.steD) && decide (w ≠ .laysStatic Bundle.tN "SUPPRESSED_SENTINEL" Bundle.listD)
def vx_at0 (own : String) (ic : Nat) (X : String) (names : List String) : List Cond := (Bundle.ownAtoms0 own ic X names).filter vx_no
def vx_atS (own : String) (ic : Nat) (X : String) (names : List String) : List Cond := (Bundle.ownAtoms own ic X names).filter vx_no
/-- a word that the tables alone decide, or a good one -/
def vx_ot (w : Cond) : Bool := w.onTables || goodWord w
theorem vx_ot_at {args a' : Array Value} {s U : State} {w : Cond} (hW : s.WarmedH U.vm) (hvm : s.vm = U.vm) (hg : vx_ot w = true) (h : w.before args s = true) : w.before a' U = true := by
  simp only [vx_ot, Bool.or_eq_true] at hg
  rcases hg with hg | hg
  · exact va_tabs hg hvm h
  · exact word_at hW (good_of_word hg) h
/-- a list's words: the good ones out of the method's own list, the others by premises of their own -/
theorem vx_hat {args : Array Value} {s : State} {L B : List Cond} (h1 : ∀ w ∈ L.filter goodWord, w.before args s = true) (h2 : ∀ w ∈ L.filter (fun w => !goodWord w), w ∈ B) (h3 : ∀ w ∈ B, w.before args s = true) : ∀ w ∈ L, w.before args s = true := by
  intro w hw
  by_cases g : goodWord w = true
  · exact h1 w (List.mem_filter.mpr ⟨hw, g⟩)
  · refine h3 w (h2 w (List.mem_filter.mpr ⟨hw, ?_⟩))
    show (!goodWord w) = true
    cases hgw : goodWord w
    · rfl
    · exact absurd hgw g
theorem vx_c {args : Array Value} {s : State} {w : Cond} {B : List Cond} (h : w.before args s = true) (t : ∀ w ∈ B, w.before args s = true) : ∀ w' ∈ w :: B, w'.before args s = true := fun w' h' => (List.mem_cons.mp h').elim (fun e => by rw [e]; exact h) (t w')
theorem vx_n {args : Array Value} {s : State} : ∀ w ∈ ([] : List Cond), w.before args s = true := fun _ h => nomatch h
theorem vx_own {args : Array Value} {s : State} {L : List Cond} (h1 : ∀ w ∈ L.filter vx_no, w.before args s = true)
    (hU : (Cond.isRef (.static Bundle.tN "UNASSIGNED_STACK" Bundle.steD)).before args s = true) (hN : (Cond.isRef (.static Bundle.tN "SUPPRESSED_SENTINEL" Bundle.listD)).before args s = true)
    (lU : (Cond.laysStatic Bundle.tN "UNASSIGNED_STACK" Bundle.steD).before args s = true) (lN : (Cond.laysStatic Bundle.tN "SUPPRESSED_SENTINEL" Bundle.listD).before args s = true) : ∀ w ∈ L, w.before args s = true := by
  intro w hw
  by_cases e1 : w = .isRef (.static Bundle.tN "UNASSIGNED_STACK" Bundle.steD)
  · rw [e1]; exact hU
  · by_cases e2 : w = .isRef (.static Bundle.tN "SUPPRESSED_SENTINEL" Bundle.listD)
    · rw [e2]; exact hN
    · by_cases e3 : w = .laysStatic Bundle.tN "UNASSIGNED_STACK" Bundle.steD
      · rw [e3]; exact lU
      · by_cases e4 : w = .laysStatic Bundle.tN "SUPPRESSED_SENTINEL" Bundle.listD
        · rw [e4]; exact lN
        · exact h1 w (List.mem_filter.mpr ⟨hw, by unfold vx_no; rw [decide_eq_true e1, decide_eq_true e2, decide_eq_true e3, decide_eq_true e4]; rfl⟩)
/-- where a static field lies, its class's statics cell in H -/
def vx_L (C n d : String) (A : Nat → Prop) (U : State) (H : Heap) : Prop := ∃ (c : ClassId) (k : Class) (i : Nat) (f : Field) (a : Nat) (cell : Cell), U.vm.findClass C = some c ∧ U.fieldFound? C n d = some (c, k, i, f) ∧ f.isStatic = true ∧ k.statics = some a ∧ H[a]? = some cell ∧ cell.vm.isStatics = true ∧ cell.cls = c ∧ f.slot < cell.slots.size ∧ k.staticTypes[f.slot]? = some f.type ∧ ¬ A a
theorem vx_L.moved {C n d : String} {A : Nat → Prop} {u U : State} {H : Heap} (hvm : u.vm.Alike U.vm) (h : vx_L C n d A u H) : vx_L C n d A U H := by
  obtain ⟨c, k, i, f, a, cell, h1, h2, h3, h4, h5, h6, h7, h8, h9, h10⟩ := h
  obtain ⟨k', hi', he⟩ := State.fieldFound?_setVm hvm h2
  exact ⟨c, k', i, f, a, cell, by rw [hvm.findClass]; exact h1, hi', h3, by rw [he]; exact h4, h5, h6, h7, h8, by rw [he]; exact h9, h10⟩
theorem vx_L.kept {C n d : String} {A : Nat → Prop} {U : State} {H H1 : Heap} (h : vx_L C n d A U H) (hq : ∀ a : Nat, a < H.size → ¬ A a → H1[a]? = H[a]?) : vx_L C n d A U H1 := by
  obtain ⟨c, k, i, f, a, cell, h1, h2, h3, h4, h5, h6, h7, h8, h9, h10⟩ := h
  exact ⟨c, k, i, f, a, cell, h1, h2, h3, h4, by rw [hq a (Array.getElem?_eq_some_iff.mp h5).1 h10]; exact h5, h6, h7, h8, h9, h10⟩
theorem vx_L.narrow {C n d : String} {A B : Nat → Prop} {U : State} {H : Heap} (h : vx_L C n d A U H) (hAB : ∀ q, B q → A q) : vx_L C n d B U H := by
  obtain ⟨c, k, i, f, a, cell, h1, h2, h3, h4, h5, h6, h7, h8, h9, h10⟩ := h
  exact ⟨c, k, i, f, a, cell, h1, h2, h3, h4, h5, h6, h7, h8, h9, fun z => h10 (hAB _ z)⟩
theorem vx_L.word {C n d : String} {A : Nat → Prop} {s : State} {args : Array Value} (h : vx_L C n d A s s.heap) : (Cond.laysStatic C n d).before args s = true := by
  obtain ⟨c, k, i, f, a, cell, h1, h2, h3, h4, h5, h6, h7, h8, h9, -⟩ := h
  show (Cond.laysStatic C n d).holds args s none s [] = true
  exact Cond.laysStatic_of h1 h2 h3 h4 h5 h6 h7 h8 h9
/-- .. and what it holds: null or some reference -/
def vx_Zq (C n d : String) (A : Nat → Prop) (U : State) (H : Heap) : Prop := va_Zq C n d A U H ∧ vx_L C n d A U H
theorem vx_Zq.moved {C n d : String} {A : Nat → Prop} {u U : State} {H : Heap} (hvm : u.vm.Alike U.vm) (h : vx_Zq C n d A u H) : vx_Zq C n d A U H := ⟨va_Zq.moved hvm h.1, vx_L.moved hvm h.2⟩
theorem vx_Zq.kept {C n d : String} {A : Nat → Prop} {U : State} {H H1 : Heap} (h : vx_Zq C n d A U H) (hq : ∀ a : Nat, a < H.size → ¬ A a → H1[a]? = H[a]?) : vx_Zq C n d A U H1 := ⟨va_Zq.kept h.1 hq, vx_L.kept h.2 hq⟩
theorem vx_Zq.narrow {C n d : String} {A B : Nat → Prop} {U : State} {H : Heap} (h : vx_Zq C n d A U H) (hAB : ∀ q, B q → A q) : vx_Zq C n d B U H := ⟨va_Zq.narrow h.1 hAB, vx_L.narrow h.2 hAB⟩
theorem vx_Zqof {args : Array Value} {s : State} {C n d : String} {A : Nat → Prop} (hl : (Cond.laysStatic C n d).before args s = true) (hini : (Cond.initialized C).before args s = true) (h : (Cond.isRef (.static C n d)).before args s = true) (hA : ∀ a : Nat, a < s.heap.size → ¬ A a) : vx_Zq C n d A s s.heap := by
  refine ⟨va_Zqof hl hini h hA, ?_⟩
  obtain ⟨c, k, i, f, a, cell, h1, h2, h3, h4, h5, h6, h7, h8, h9⟩ := Cond.laysStatic_spec hl
  exact ⟨c, k, i, f, a, cell, h1, h2, h3, h4, h5, h6, h7, h8, h9, hA a (Array.getElem?_eq_some_iff.mp h5).1⟩
theorem vx_isRef {C n d : String} {v : Value} {A : Nat → Prop} {s : State} {args : Array Value} (h : va_Z C n d v A s s.heap) (hv : v.isRef = true) : (Cond.isRef (.static C n d)).before args s = true := by
  obtain ⟨cf, kf, fi, f, a, cell, h1, h2, h3, h4, h5, h6, h7, -⟩ := h
  have he : (Term.static C n d).eval args s none [] s = some v := by
    simp [Term.eval, State.fieldNamed?, h1, h2, h4, h5, h6, h7]
  simp only [Cond.before, Cond.holds, Cond.value, he]
  cases v <;> simp_all [Value.isRef]
theorem vx_isRefq {C n d : String} {A : Nat → Prop} {s : State} {args : Array Value} (h : va_Zq C n d A s s.heap) : (Cond.isRef (.static C n d)).before args s = true := by
  rcases h with h | ⟨t, h⟩
  · exact vx_isRef h rfl
  · exact vx_isRef h rfl
/-- the same frame, seen from here: as if the method were called anew in this heap -/
theorem vx_rebase {T : State} (X : Stand p l e R s m args below meth c T locs cells slots) {R' : Room} (hf : R'.frames ≤ R.frames) (hl : R'.locals ≤ R.locals) (hc : cells + R'.cells ≤ R.cells) (hs : slots + R'.slots ≤ R.slots) :
    Stand p l e R' ((T.setVm s.vm).setFrames (.invoking m args :: below)) m args below meth c T [] 0 0 := by
  have htop : (T.setVm s.vm).topJava?.isSome := X.here.top
  have hF : ((T.setVm s.vm).setFrames (.invoking m args :: below)).frames = .invoking m args :: below := State.frames_setFrames _ (State.cur_lt_of_top htop)
  obtain ⟨g₀, hg0⟩ := Option.isSome_iff_exists.mp htop
  obtain ⟨r, hr⟩ := State.topJava?_eq_some.mp hg0
  have hl9 : e.platform.stackLimits (T.setVm s.vm).me = e.platform.stackLimits s.me := X.limits
  have hb9 : (T.setVm s.vm).me.stackBytes = s.me.stackBytes := X.bytes
  refine ⟨X.admits, X.cas, X.clock, hF, ?_, X.hears, X.method, X.code, X.here, X.tail, X.warmed, ?_, ?_, ?_⟩
  · have h := X.room
    have hU : ((T.setVm s.vm).setFrames (.invoking m args :: below)).localsInUse = s.localsInUse := by
      rw [State.localsInUse_invoking hF (meth := meth) (c := c) X.method X.code, State.localsInUse_invoking X.frames X.method X.code]
    simp only [State.hasRoom, Bool.and_eq_true, decide_eq_true_eq] at h ⊢
    obtain ⟨⟨⟨⟨h1, h2, h3, h4, h5, h6⟩, h7⟩, h8⟩, h9⟩ := h
    rw [X.frames, List.length_cons] at h2 h3
    have q1 := X.heapSize
    have q2 := X.used
    simp only [hF, hU, List.length_cons, State.stackLimits_setFrames, State.stackBytes_setFrames, hl9, hb9]
    refine ⟨⟨⟨⟨by omega, by omega, by omega, by omega, by omega, h6⟩, ?_⟩, ?_⟩, X.book⟩
    · show T.heap.size + R'.cells ≤ e.platform.maxCells
      omega
    · show T.slotsUsed + R'.slots ≤ e.platform.maxSlots
      omega
  · rw [State.stackLimits_setFrames]; rfl
  · rw [State.stackBytes_setFrames]; rfl
  · refine ⟨?_, Nat.le_refl _, Nat.le_refl _, ?_, ?_, fun a c9 h9 => ⟨c9, h9, rfl, rfl, fun _ _ => rfl⟩⟩
    · obtain ⟨t, ht, -⟩ := State.frames_cons hr
      show T.setVm s.vm = { ((T.setVm s.vm).setFrames (.invoking m args :: below)).setFrames (T.setVm s.vm).frames with heap := T.heap, slotsUsed := T.slotsUsed }
      rw [State.setFrames_setFrames, State.setFrames_self ht]
      rfl
    · show T.slotsUsed = T.slotsUsed + ((T.heap.toList.drop T.heap.size).map (·.slots.size)).sum
      rw [List.drop_eq_nil_of_le (Nat.le_of_eq Array.length_toList)]
      rfl
    · show ((T.heap.toList.drop T.heap.size).map (·.slots.size)).sum ≤ 0
      rw [List.drop_eq_nil_of_le (Nat.le_of_eq Array.length_toList)]
      exact Nat.le_refl _
/-- 'throw new E()': new; dup; invokespecial; athrow -/
theorem vx_throw0 {cc : ByteArray} {pc : Nat} (hexec : p.tables.exec = Jvm.exec) (hb : c.code = cc) (hl : l.stackTraces = false) {own cls : String} {names : List String} {ik ic mc ms : Nat} {A : Nat → Prop}
    (hown : s.vm.findClass own = some m.cls) (hcls : Bundle.fit cls = true) (hnames : ∀ n ∈ names, Bundle.fit n = true)
    (hk : (Cond.classLink own ik cls).before args s = true) (hini : (Cond.initialized cls).before args s = true) (hat : ∀ w ∈ vx_at0 own ic cls names, w.before args s = true)
    (hgood : ∀ w ∈ Cond.classLink own ik cls :: Cond.initialized cls :: vx_at0 own ic cls names, vx_ot w = true)
    (hU : vx_Zq Bundle.tN "UNASSIGNED_STACK" Bundle.steD A s s.heap) (hN : vx_Zq Bundle.tN "SUPPRESSED_SENTINEL" Bundle.listD A s s.heap) (hS : va_S A s.heap H locs) (hsize : ls.size = c.maxLocals)
    (d0 : decode cc pc = .ok (.new ik, 3)) (d3 : decode cc (pc + 3) = .ok (.dup, 1)) (d4 : decode cc (pc + 4) = .ok (.invokespecial ic, 3)) (d7 : decode cc (pc + 7) = .ok (.athrow, 1))
    (hout : ∀ x ∈ c.exceptionTable.toList, covers x (pc + 7) = false)
    (hRframes : names.length + 3 < R.frames) (hRlocals : (rest.map fun v => v.category).sum + (13 * (names.length + 1) + 42) ≤ R.locals) (hRcells : cells + 1 ≤ R.cells) (hRslots : slots + 6 ≤ R.slots) (hlocks : meth.locks = false)
    (hx : ∀ t : State, s.vm.Alike t.vm → H.size ≤ t.heap.size → (∀ q : Nat, q < H.size → t.heap[q]? = H[q]?) → XC cls s t)
    (hf : ∀ z ∈ locs, free z.base) (hc : cells + 1 ≤ mc) (hs : slots + 6 ≤ ms) :
    W p l e R s m args below meth c H locs cells slots (vx_MQ below Qc XC args s mc ms free) (F0 m pc ls rest) := by
  intro T hT X
  have htr : e.platform.stackTraces = false := (show e.platform.stackTraces = l.stackTraces by rw [X.admits.platform]).trans hl
  have Y := vx_rebase X (R' := { frames := R.frames, locals := R.locals, cells := 1, slots := 6 }) (Nat.le_refl _) (Nat.le_refl _) hRcells hRslots
  obtain ⟨s', hA⟩ : ∃ z, z = (T.setVm s.vm).setFrames (.invoking m args :: below) := ⟨_, rfl⟩
  rw [← hA] at Y
  have hvm : s'.vm = s.vm := by rw [hA]; rfl
  have hhp : s'.heap = H := by rw [hA]; exact hT
  have hW0 : s.WarmedH s'.vm := by rw [hvm]; exact State.WarmedH.refl s
  have hat' : ∀ w ∈ vx_at0 own ic cls names, w.before args s' = true := fun w hw => vx_ot_at hW0 hvm.symm (hgood w (List.mem_cons_of_mem _ (List.mem_cons_of_mem _ hw))) (hat w hw)
  have hk' : (Cond.classLink own ik cls).before args s' = true := vx_ot_at hW0 hvm.symm (hgood _ List.mem_cons_self) hk
  have hini' : (Cond.initialized cls).before args s' = true := vx_ot_at hW0 hvm.symm (hgood _ (List.mem_cons_of_mem _ List.mem_cons_self)) hini
  have hU' : vx_Zq Bundle.tN "UNASSIGNED_STACK" Bundle.steD A s' s'.heap := by rw [hhp]; exact vx_Zq.moved hW0.alike (hU.kept hS.2.1)
  have hN' : vx_Zq Bundle.tN "SUPPRESSED_SENTINEL" Bundle.listD A s' s'.heap := by rw [hhp]; exact vx_Zq.moved hW0.alike (hN.kept hS.2.1)
  have h : ∀ w ∈ Bundle.ownAtoms0 own ic cls names, w.before args s' = true := vx_own hat' (vx_isRefq hU'.1) (vx_isRefq hN'.1) hU'.2.word hN'.2.word
  have hown' : s'.vm.findClass own = some m.cls := by rw [hvm]; exact hown
  have hins : (Cond.instantiable cls 6).before args s' = true := h _ (by simp [Bundle.ownAtoms0])
  obtain ⟨vm₁, cX, kX, hfX, hkX, -, -, X₁, st1⟩ := Y.newCold hexec (own := own) (C := cls) (index := ik) (n := 6) hown' hk' hins hini'
    (g := F0 m pc ls rest) rfl (by rw [hb]; exact d0) (Nat.le_refl _) (Nat.le_refl _)
  generalize hT1 : (T.setVm vm₁).pushCell { cls := cX, slots := kX.instanceTypes.map defaultValue, vm := .none } = T1 at X₁ st1
  have hcat : (Value.ref T.heap.size).category = 1 := rfl
  have hcellA : T1.heap[T.heap.size]? = some (freshCell cX kX) := by rw [← hT1]; exact State.heap_pushCell_size _ _
  have d3' : decode c.code (pc + 3) = .ok (.dup, 1) := by rw [hb]; exact d3
  obtain ⟨U, hsteps, hrun, hend, hW, hsame, ce, hce, hO⟩ := X₁.ctorThrow0 hexec htr (own := own) (cls := cls) (names := names) (ic := ic) hown' hcls hnames h (fun x hx => nomatch hx) hfX hkX hcellA (by rw [hhp, hT]; exact Nat.le_refl _)
    (g := { method := m, pc := pc + 4, locals := ls, stack := .ref T.heap.size :: .ref T.heap.size :: rest, locked := none }) rfl hsize rfl rfl (rest := rest) rfl
    (by rw [hb]; exact d4) (by rw [hb]; exact d7) hout hRframes (by simp only [List.map_cons, List.sum_cons, hcat]; omega) hlocks
  obtain ⟨f1, f2⟩ := vx_frame hsame
  rw [hhp] at f1 f2
  have hWs : s.WarmedH U.vm := State.WarmedH.trans hW0 hW
  have hcl : s.vm.findClass cls = some ce.cls := by
    have h9 := hO.cls
    rw [hvm] at h9
    exact h9
  have hall : s.sameButNew ({ U with vm := s.vm } : State) locs mc ms := by
    subst hA
    obtain ⟨e1, e2⟩ := hsame
    rw [State.setFrames_setFrames] at e1
    have h2 : (T.setVm s.vm).sameButNew ({ U with vm := s.vm } : State) [] (0 + 1) (0 + 6) := ⟨e1, e2⟩
    have h3 := X.same.trans h2
    rw [List.append_nil] at h3
    exact h3.mono hc hs
  refine ⟨U, ?_, .threw T.heap.size, hrun, hend, Or.inr ⟨T.heap.size, rfl, cls, ce, locs, hx U hWs.alike f1 (fun q hq => f2 q hq (fun z hz => nomatch hz)), hce, hO.vm, hcl, hWs, hall, hf⟩⟩
  refine st1 _ ?_
  show Steps p.tables e below (T1.setTop { method := m, pc := pc + 3, locals := ls, stack := .ref T.heap.size :: rest, locked := none }) _
  jvm_step X₁.here [X₁.here.top, hexec, d3', Value.category]
  exact hsteps
/-- 'throw new E("text")': new; dup; ldc; invokespecial; athrow -/
theorem vx_throwS {cc : ByteArray} {pc : Nat} (hexec : p.tables.exec = Jvm.exec) (hb : c.code = cc) (hl : l.stackTraces = false) {own cls text : String} {names : List String} {ik is ic mc ms sa : Nat} {A : Nat → Prop}
    (hown : s.vm.findClass own = some m.cls) (hcls : Bundle.fit cls = true) (hnames : ∀ n ∈ names, Bundle.fit n = true)
    (hk : (Cond.classLink own ik cls).before args s = true) (hini : (Cond.initialized cls).before args s = true) (hstr : vk_R own is text sa s) (hat : ∀ w ∈ vx_atS own ic cls names, w.before args s = true)
    (hgood : ∀ w ∈ Cond.classLink own ik cls :: Cond.initialized cls :: vx_atS own ic cls names, vx_ot w = true)
    (hU : vx_Zq Bundle.tN "UNASSIGNED_STACK" Bundle.steD A s s.heap) (hN : vx_Zq Bundle.tN "SUPPRESSED_SENTINEL" Bundle.listD A s s.heap) (hS : va_S A s.heap H locs) (hsize : ls.size = c.maxLocals)
    (d0 : decode cc pc = .ok (.new ik, 3)) (d3 : decode cc (pc + 3) = .ok (.dup, 1)) (d4 : decode cc (pc + 4) = .ok (.ldc is, 2)) (d6 : decode cc (pc + 6) = .ok (.invokespecial ic, 3)) (d9 : decode cc (pc + 9) = .ok (.athrow, 1))
    (hout : ∀ x ∈ c.exceptionTable.toList, covers x (pc + 9) = false)
    (hRframes : names.length + 3 < R.frames) (hRlocals : (rest.map fun v => v.category).sum + (13 * (names.length + 1) + 43) ≤ R.locals) (hRcells : cells + 1 ≤ R.cells) (hRslots : slots + 6 ≤ R.slots) (hlocks : meth.locks = false)
    (hx : ∀ t : State, s.vm.Alike t.vm → H.size ≤ t.heap.size → (∀ q : Nat, q < H.size → t.heap[q]? = H[q]?) → XC cls s t)
    (hf : ∀ z ∈ locs, free z.base) (hc : cells + 1 ≤ mc) (hs : slots + 6 ≤ ms) :
    W p l e R s m args below meth c H locs cells slots (vx_MQ below Qc XC args s mc ms free) (F0 m pc ls rest) := by
  intro T hT X
  have htr : e.platform.stackTraces = false := (show e.platform.stackTraces = l.stackTraces by rw [X.admits.platform]).trans hl
  have Y := vx_rebase X (R' := { frames := R.frames, locals := R.locals, cells := 1, slots := 6 }) (Nat.le_refl _) (Nat.le_refl _) hRcells hRslots
  obtain ⟨s', hA⟩ : ∃ z, z = (T.setVm s.vm).setFrames (.invoking m args :: below) := ⟨_, rfl⟩
  rw [← hA] at Y
  have hvm : s'.vm = s.vm := by rw [hA]; rfl
  have hhp : s'.heap = H := by rw [hA]; exact hT
  have hW0 : s.WarmedH s'.vm := by rw [hvm]; exact State.WarmedH.refl s
  have hat' : ∀ w ∈ vx_atS own ic cls names, w.before args s' = true := fun w hw => vx_ot_at hW0 hvm.symm (hgood w (List.mem_cons_of_mem _ (List.mem_cons_of_mem _ hw))) (hat w hw)
  have hk' : (Cond.classLink own ik cls).before args s' = true := vx_ot_at hW0 hvm.symm (hgood _ List.mem_cons_self) hk
  have hini' : (Cond.initialized cls).before args s' = true := vx_ot_at hW0 hvm.symm (hgood _ (List.mem_cons_of_mem _ List.mem_cons_self)) hini
  have hU' : vx_Zq Bundle.tN "UNASSIGNED_STACK" Bundle.steD A s' s'.heap := by rw [hhp]; exact vx_Zq.moved hW0.alike (hU.kept hS.2.1)
  have hN' : vx_Zq Bundle.tN "SUPPRESSED_SENTINEL" Bundle.listD A s' s'.heap := by rw [hhp]; exact vx_Zq.moved hW0.alike (hN.kept hS.2.1)
  have h : ∀ w ∈ Bundle.ownAtoms own ic cls names, w.before args s' = true := vx_own hat' (vx_isRefq hU'.1) (vx_isRefq hN'.1) hU'.2.word hN'.2.word
  have hown' : s'.vm.findClass own = some m.cls := by rw [hvm]; exact hown
  have hins : (Cond.instantiable cls 6).before args s' = true := h _ (by simp [Bundle.ownAtoms])
  obtain ⟨vm₁, cX, kX, hfX, hkX, -, -, X₁, st1⟩ := Y.newCold hexec (own := own) (C := cls) (index := ik) (n := 6) hown' hk' hins hini'
    (g := F0 m pc ls rest) rfl (by rw [hb]; exact d0) (Nat.le_refl _) (Nat.le_refl _)
  generalize hT1 : (T.setVm vm₁).pushCell { cls := cX, slots := kX.instanceTypes.map defaultValue, vm := .none } = T1 at X₁ st1
  have hcat : (Value.ref T.heap.size).category = 1 := rfl
  have hcellA : T1.heap[T.heap.size]? = some (freshCell cX kX) := by rw [← hT1]; exact State.heap_pushCell_size _ _
  have d3' : decode c.code (pc + 3) = .ok (.dup, 1) := by rw [hb]; exact d3
  have d4' : decode c.code (pc + 4) = .ok (.ldc is, 2) := by rw [hb]; exact d4
  have hstr' : vk_R own is text sa s' := vk_R.warm hW0 hstr
  obtain ⟨U, hsteps, hrun, hend, hW, hsame, ce, hce, hO⟩ := X₁.ctorThrowS hexec htr (own := own) (cls := cls) (names := names) (ic := ic) hown' hcls hnames h (fun x hx => nomatch hx) hfX hkX hcellA (by rw [hhp, hT]; exact Nat.le_refl _) (msg := .ref sa) rfl
    (g := { method := m, pc := pc + 6, locals := ls, stack := .ref sa :: .ref T.heap.size :: .ref T.heap.size :: rest, locked := none }) rfl hsize rfl rfl (rest := rest) rfl
    (by rw [hb]; exact d6) (by rw [hb]; exact d9) hout hRframes (by simp only [List.map_cons, List.sum_cons, hcat]; omega) hlocks
  obtain ⟨f1, f2⟩ := vx_frame hsame
  rw [hhp] at f1 f2
  have hWs : s.WarmedH U.vm := State.WarmedH.trans hW0 hW
  have hcl : s.vm.findClass cls = some ce.cls := by
    have h9 := hO.cls
    rw [hvm] at h9
    exact h9
  have hall : s.sameButNew ({ U with vm := s.vm } : State) locs mc ms := by
    subst hA
    obtain ⟨e1, e2⟩ := hsame
    rw [State.setFrames_setFrames] at e1
    have h2 : (T.setVm s.vm).sameButNew ({ U with vm := s.vm } : State) [] (0 + 1) (0 + 6) := ⟨e1, e2⟩
    have h3 := X.same.trans h2
    rw [List.append_nil] at h3
    exact h3.mono hc hs
  refine ⟨U, ?_, .threw T.heap.size, hrun, hend, Or.inr ⟨T.heap.size, rfl, cls, ce, locs, hx U hWs.alike f1 (fun q hq => f2 q hq (fun z hz => nomatch hz)), hce, hO.vm, hcl, hWs, hall, hf⟩⟩
  refine st1 _ ?_
  show Steps p.tables e below (T1.setTop { method := m, pc := pc + 3, locals := ls, stack := .ref T.heap.size :: rest, locked := none }) _
  jvm_step X₁.here [X₁.here.top, hexec, d3', Value.category]
  exact X₁.ldcString hexec (own := own) (text := text) (index := is) (a := sa) hown' hstr'.1 hstr'.2
    (g := { method := m, pc := pc + 4, locals := ls, stack := .ref T.heap.size :: .ref T.heap.size :: rest, locked := none }) rfl d4' _ hsteps
/-- 'throw new E("text")', the text by a wide index -/
theorem vx_throwSW {cc : ByteArray} {pc : Nat} (hexec : p.tables.exec = Jvm.exec) (hb : c.code = cc) (hl : l.stackTraces = false) {own cls text : String} {names : List String} {ik is ic mc ms sa : Nat} {A : Nat → Prop}
    (hown : s.vm.findClass own = some m.cls) (hcls : Bundle.fit cls = true) (hnames : ∀ n ∈ names, Bundle.fit n = true)
    (hk : (Cond.classLink own ik cls).before args s = true) (hini : (Cond.initialized cls).before args s = true) (hstr : vk_R own is text sa s) (hat : ∀ w ∈ vx_atS own ic cls names, w.before args s = true)
    (hgood : ∀ w ∈ Cond.classLink own ik cls :: Cond.initialized cls :: vx_atS own ic cls names, vx_ot w = true)
    (hU : vx_Zq Bundle.tN "UNASSIGNED_STACK" Bundle.steD A s s.heap) (hN : vx_Zq Bundle.tN "SUPPRESSED_SENTINEL" Bundle.listD A s s.heap) (hS : va_S A s.heap H locs) (hsize : ls.size = c.maxLocals)
    (d0 : decode cc pc = .ok (.new ik, 3)) (d3 : decode cc (pc + 3) = .ok (.dup, 1)) (d4 : decode cc (pc + 4) = .ok (.ldc_w is, 3)) (d7 : decode cc (pc + 7) = .ok (.invokespecial ic, 3)) (d10 : decode cc (pc + 10) = .ok (.athrow, 1))
    (hout : ∀ x ∈ c.exceptionTable.toList, covers x (pc + 10) = false)
    (hRframes : names.length + 3 < R.frames) (hRlocals : (rest.map fun v => v.category).sum + (13 * (names.length + 1) + 43) ≤ R.locals) (hRcells : cells + 1 ≤ R.cells) (hRslots : slots + 6 ≤ R.slots) (hlocks : meth.locks = false)
    (hx : ∀ t : State, s.vm.Alike t.vm → H.size ≤ t.heap.size → (∀ q : Nat, q < H.size → t.heap[q]? = H[q]?) → XC cls s t)
    (hf : ∀ z ∈ locs, free z.base) (hc : cells + 1 ≤ mc) (hs : slots + 6 ≤ ms) :
    W p l e R s m args below meth c H locs cells slots (vx_MQ below Qc XC args s mc ms free) (F0 m pc ls rest) := by
  intro T hT X
  have htr : e.platform.stackTraces = false := (show e.platform.stackTraces = l.stackTraces by rw [X.admits.platform]).trans hl
  have Y := vx_rebase X (R' := { frames := R.frames, locals := R.locals, cells := 1, slots := 6 }) (Nat.le_refl _) (Nat.le_refl _) hRcells hRslots
  obtain ⟨s', hA⟩ : ∃ z, z = (T.setVm s.vm).setFrames (.invoking m args :: below) := ⟨_, rfl⟩
  rw [← hA] at Y
  have hvm : s'.vm = s.vm := by rw [hA]; rfl
  have hhp : s'.heap = H := by rw [hA]; exact hT
  have hW0 : s.WarmedH s'.vm := by rw [hvm]; exact State.WarmedH.refl s
  have hat' : ∀ w ∈ vx_atS own ic cls names, w.before args s' = true := fun w hw => vx_ot_at hW0 hvm.symm (hgood w (List.mem_cons_of_mem _ (List.mem_cons_of_mem _ hw))) (hat w hw)
  have hk' : (Cond.classLink own ik cls).before args s' = true := vx_ot_at hW0 hvm.symm (hgood _ List.mem_cons_self) hk
  have hini' : (Cond.initialized cls).before args s' = true := vx_ot_at hW0 hvm.symm (hgood _ (List.mem_cons_of_mem _ List.mem_cons_self)) hini
  have hU' : vx_Zq Bundle.tN "UNASSIGNED_STACK" Bundle.steD A s' s'.heap := by rw [hhp]; exact vx_Zq.moved hW0.alike (hU.kept hS.2.1)
  have hN' : vx_Zq Bundle.tN "SUPPRESSED_SENTINEL" Bundle.listD A s' s'.heap := by rw [hhp]; exact vx_Zq.moved hW0.alike (hN.kept hS.2.1)
  have h : ∀ w ∈ Bundle.ownAtoms own ic cls names, w.before args s' = true := vx_own hat' (vx_isRefq hU'.1) (vx_isRefq hN'.1) hU'.2.word hN'.2.word
  have hown' : s'.vm.findClass own = some m.cls := by rw [hvm]; exact hown
  have hins : (Cond.instantiable cls 6).before args s' = true := h _ (by simp [Bundle.ownAtoms])
  obtain ⟨vm₁, cX, kX, hfX, hkX, -, -, X₁, st1⟩ := Y.newCold hexec (own := own) (C := cls) (index := ik) (n := 6) hown' hk' hins hini'
    (g := F0 m pc ls rest) rfl (by rw [hb]; exact d0) (Nat.le_refl _) (Nat.le_refl _)
  generalize hT1 : (T.setVm vm₁).pushCell { cls := cX, slots := kX.instanceTypes.map defaultValue, vm := .none } = T1 at X₁ st1
  have hcat : (Value.ref T.heap.size).category = 1 := rfl
  have hcellA : T1.heap[T.heap.size]? = some (freshCell cX kX) := by rw [← hT1]; exact State.heap_pushCell_size _ _
  have d3' : decode c.code (pc + 3) = .ok (.dup, 1) := by rw [hb]; exact d3
  have d4' : decode c.code (pc + 4) = .ok (.ldc_w is, 3) := by rw [hb]; exact d4
  have hstr' : vk_R own is text sa s' := vk_R.warm hW0 hstr
  obtain ⟨U, hsteps, hrun, hend, hW, hsame, ce, hce, hO⟩ := X₁.ctorThrowS hexec htr (own := own) (cls := cls) (names := names) (ic := ic) hown' hcls hnames h (fun x hx => nomatch hx) hfX hkX hcellA (by rw [hhp, hT]; exact Nat.le_refl _) (msg := .ref sa) rfl
    (g := { method := m, pc := pc + 7, locals := ls, stack := .ref sa :: .ref T.heap.size :: .ref T.heap.size :: rest, locked := none }) rfl hsize rfl rfl (rest := rest) rfl
    (by rw [hb]; exact d7) (by rw [hb]; exact d10) hout hRframes (by simp only [List.map_cons, List.sum_cons, hcat]; omega) hlocks
  obtain ⟨f1, f2⟩ := vx_frame hsame
  rw [hhp] at f1 f2
  have hWs : s.WarmedH U.vm := State.WarmedH.trans hW0 hW
  have hcl : s.vm.findClass cls = some ce.cls := by
    have h9 := hO.cls
    rw [hvm] at h9
    exact h9
  have hall : s.sameButNew ({ U with vm := s.vm } : State) locs mc ms := by
    subst hA
    obtain ⟨e1, e2⟩ := hsame
    rw [State.setFrames_setFrames] at e1
    have h2 : (T.setVm s.vm).sameButNew ({ U with vm := s.vm } : State) [] (0 + 1) (0 + 6) := ⟨e1, e2⟩
    have h3 := X.same.trans h2
    rw [List.append_nil] at h3
    exact h3.mono hc hs
  refine ⟨U, ?_, .threw T.heap.size, hrun, hend, Or.inr ⟨T.heap.size, rfl, cls, ce, locs, hx U hWs.alike f1 (fun q hq => f2 q hq (fun z hz => nomatch hz)), hce, hO.vm, hcl, hWs, hall, hf⟩⟩
  refine st1 _ ?_
  show Steps p.tables e below (T1.setTop { method := m, pc := pc + 3, locals := ls, stack := .ref T.heap.size :: rest, locked := none }) _
  jvm_step X₁.here [X₁.here.top, hexec, d3', Value.category]
  exact X₁.ldcStringW hexec (own := own) (text := text) (index := is) (a := sa) hown' hstr'.1 hstr'.2
    (g := { method := m, pc := pc + 4, locals := ls, stack := .ref T.heap.size :: .ref T.heap.size :: rest, locked := none }) rfl d4' _ hsteps
end Ends
section Bodies
variable {l : Launch}
theorem vx_ofW {y : MethodName} {ws ws' : List Cond} {rm : Room} {Pc : Array Value → State → Prop} {Qc : Array Value → State → Outcome → State → Prop} {XC : String → State → State → Prop} {mc ms : Nat} {free : Addr → Prop} {cc : ByteArray} {maxL : Nat} {ret : Option FieldType}
    (hy : plainName y.cls = true) (hw : ws = Cond.code y cc maxL ret :: ws')
    (body : ∀ p e s m args below meth c s₁, BodyLoose p l y (headSpec ws rm) cc maxL ret e s m args below meth c s₁ → c.maxLocals = maxL → (∀ x ∈ c.exceptionTable.toList, False) → Pc args s →
      W p l e (headSpec ws rm).room s m args below meth c s.heap [] 0 0 (vx_MQ below Qc XC args s mc ms free) (entryFrame m args maxL)) : vx_Met l y ws rm Pc Qc XC mc ms free := by
  refine MetFree.of_bodyS (code := cc) (maxLocals := maxL) (ret := ret) hy ?_ ?_
  · intro args s m h hn
    obtain ⟨meth, c, h1, h2, h3, h4, h5, h6, -, -⟩ := Cond.code_spec hn (atoms_spec (ws := ws) h _ (by rw [hw]; exact List.mem_cons_self))
    exact ⟨meth, c, h1, h2, h3, h4, h5, h6⟩
  · intro p e s m args below meth c s₁ B hml hP _
    have hh0 : s₁.heap = s.heap := by rw [B.state]; rfl
    have ht : ∀ x ∈ c.exceptionTable.toList, False := by
      obtain ⟨meth9, c9, h1, h2, -, -, -, -, h7, -⟩ := Cond.code_spec B.named (atoms_spec (ws := ws) B.pre _ (by rw [hw]; exact List.mem_cons_self))
      cases Option.some.inj (h1.symm.trans B.method)
      cases Option.some.inj (h2.symm.trans (Stand.of_body B).code)
      intro x hx
      rw [Array.isEmpty_iff.mp h7] at hx
      cases hx
    obtain ⟨t, a1, o, b1, b2, b3⟩ := body p e s m args below meth c s₁ B hml ht hP s₁ hh0 (Stand.of_body B)
    exact ⟨t, o, a1, b1, b2, b3⟩
/-- the table of a body with handlers -/
theorem vx_table {p : Program} {x y : MethodName} {S : Spec} {cc bytes : ByteArray} {maxL maxL' : Nat} {ret ret' : Option FieldType} {e : Env} {s s₁ : State} {m : MethodId} {args : Array Value} {below : List Frame} {meth : Method} {c : Code} {hh : List (Nat × Nat × Nat × Nat)}
    (B : BodyLoose p l y S cc maxL ret e s m args below meth c s₁) (h : (Cond.codeWith y bytes maxL' ret' hh).before args s = true) : c.exceptionTable.toList = tableOf hh := by
  obtain ⟨m9, meth9, c9, hn9, h1, h2, -, -, h6, -⟩ := Cond.codeWith_spec h
  cases Option.some.inj (hn9.symm.trans B.named)
  cases Option.some.inj (h1.symm.trans B.method)
  cases Option.some.inj (h2.symm.trans (Stand.of_body B).code)
  rw [← h6, table_eq]
end Bodies
end VXA
/-! ===== END ===== -/
/-! ===== BEGIN a static call of a method with an exception table ===== -/
section VXS
variable {p : Program} {l : Launch} {e : Env} {R : Room} {s : State} {m : MethodId} {args : Array Value} {below : List Frame} {meth : Method} {c : Code} {T : State} {H : Heap} {locs : List Loc} {cells slots : Nat}
abbrev vx_CSW (R : Room) (s : State) (args : Array Value) (own : String) (index : Nat) (y : MethodName) (bytes : ByteArray) (maxL : Nat) (ret : Option FieldType) (hh : List (Nat × Nat × Nat × Nat)) (ws : List Cond) (rm : Room) (mc ms n : Nat) : Prop :=
  (rm.cells = mc ∧ rm.slots = ms ∧ rm.frames + 1 ≤ R.frames ∧ 8 + (maxL + 11) + rm.locals ≤ R.locals ∧ (∀ w ∈ ws, ∀ (a' : Array Value) (U : State), s.WarmedH U.vm → w.before a' U = true) ∧ Cond.codeWith y bytes maxL ret hh ∈ ws) ∧
  (Cond.codeWith y bytes maxL ret hh).before args s = true ∧ (Cond.initialized y.cls).before args s = true ∧ (y.cls ≠ "java/lang/invoke/MethodHandle" ∧ y.cls ≠ "java/lang/invoke/VarHandle") ∧
  (∀ sig, parseMethodDescriptor y.desc = some sig → n = sig.parameters.length) ∧ (Cond.methodLink own index y).before args s = true ∧ (Cond.static y).before args s = true
theorem vx_cwSW {own : String} {index maxL mc ms : Nat} {y : MethodName} {bytes : ByteArray} {ret : Option FieldType} {hh : List (Nat × Nat × Nat × Nat)} {Ts ws ws' : List Cond} {rm : Room} (n : Nat) (ht : ∀ w ∈ Ts, w.before args s = true) (hT : GoodIn Ts (va_wsS own index y ws)) (hw : ws = Cond.codeWith y bytes maxL ret hh :: ws') (hrc : rm.cells = mc) (hrs : rm.slots = ms)
    (hd : y.cls ≠ "java/lang/invoke/MethodHandle" ∧ y.cls ≠ "java/lang/invoke/VarHandle" ∧ (parseMethodDescriptor y.desc).map (fun d => d.parameters.length) = some n) (hR : rm.frames + 1 ≤ R.frames ∧ 8 + (maxL + 11) + rm.locals ≤ R.locals) :
    vx_CSW R s args own index y bytes maxL ret hh ws rm mc ms n := by
  have ok : ∀ w ∈ va_wsS own index y ws, w.before args s = true := fun w h => ht w (hT w h).1
  have hG : GoodIn Ts ws := fun w h => hT w (by unfold va_wsS; exact List.mem_append_right _ h)
  have hc : Cond.codeWith y bytes maxL ret hh ∈ ws := by rw [hw]; exact List.mem_cons_self
  refine ⟨⟨hrc, hrs, hR.1, hR.2, pay_in ht hG, hc⟩, ht _ (hG _ hc).1, ok _ (by simp [va_wsS]), ⟨hd.1, hd.2.1⟩, fun sig h => ?_, ok _ (by simp [va_wsS]), ok _ (by simp [va_wsS])⟩
  have h2 := hd.2.2
  rw [h] at h2
  exact (Option.some.inj h2).symm
theorem vx_callSW (X : Stand p l e R s m args below meth c T locs cells slots) (hexec : p.tables.exec = Jvm.exec) {own : String} {index : Nat} {y : MethodName} {bytes : ByteArray} {maxL : Nat} {ret : Option FieldType} {hh : List (Nat × Nat × Nat × Nat)}
    (hown : s.vm.findClass own = some m.cls) (hlink : (Cond.methodLink own index y).before args s = true) (hstat : (Cond.static y).before args s = true) (hinit : (Cond.initialized y.cls).before args s = true)
    (hcode : (Cond.codeWith y bytes maxL ret hh).before args s = true) (hy : y.cls ≠ "java/lang/invoke/MethodHandle" ∧ y.cls ≠ "java/lang/invoke/VarHandle")
    {W9 : Nat} {Pre : Pt → Array Value → Prop} {Post : Pt → Array Value → Option Value → Pt → Prop} (hK : Back l R p e below s args y 3 W9 Pre Post)
    {g : JFrame} (hg : g.method = m) (hsize : g.locals.size = c.maxLocals) {argsL rest : List Value} (hlen : ∀ sig, parseMethodDescriptor y.desc = some sig → argsL.length = sig.parameters.length)
    (hstack : g.stack = argsL.reverse ++ rest) (hW : 2 * g.monitorRoom + (rest.map fun v => v.category).sum ≤ W9) (hdg : decode c.code g.pc = .ok (.invokestatic index, 3))
    (hpre : ∀ vm₁, s.WarmedH vm₁ → Pre ⟨T.setVm vm₁, locs, cells, slots⟩ argsL.toArray) :
    ∃ (v : Option Value) (vm₁ : Vm) (B : Pt), s.WarmedH vm₁ ∧ Stand p l e R s m args below meth c B.U B.locs B.cells B.slots ∧ Post ⟨T.setVm vm₁, locs, cells, slots⟩ argsL.toArray v B ∧
      ∀ target, Steps p.tables e below (B.U.setTop { g with pc := g.pc + 3, stack := v.toList ++ rest }) target → Steps p.tables e below (T.setTop g) target := by
  obtain ⟨mk, methM, cM, hnamed, hmethM, -, -, -, -, -, -, hsigM⟩ := Cond.codeWith_spec hcode
  have hstatic : methM.isStatic = true := Cond.static_spec hnamed hmethM hstat
  obtain ⟨kP, hkP, -⟩ := className_of_methodNamed hnamed
  have hinitP : kP.init = .initialized := Cond.initialized_spec (findClass_of_methodNamed hnamed) hkP hinit
  obtain ⟨vm₁, X₁, hstep₁⟩ := X.invokestatic hexec hown hlink hnamed hmethM hstatic hkP hinitP hy (g := g) hg (argsL := argsL) (rest := rest) (hlen _ hsigM) hstack hdg
  obtain ⟨v, B, X', hpost, hsteps⟩ := hK m meth c ⟨T.setVm vm₁, locs, cells, slots⟩ { g with stack := rest } (.invokestatic index) mk argsL.toArray X₁ hg hsize hdg hW (X₁.named hnamed) (hpre vm₁ X₁.warmed)
  exact ⟨v, vm₁, B, X₁.warmed, X', hpost, fun target h => hstep₁ _ fun acts => by rw [doInvoke_state]; exact hsteps.trans h⟩
theorem vx_runSW {y : MethodName} {bytes cc : ByteArray} {maxL nL mc ms n index : Nat} {ret : Option FieldType} {hh : List (Nat × Nat × Nat × Nat)} {ws : List Cond} {rm : Room} {Pc : Array Value → State → Prop} {Qc : Array Value → State → Outcome → State → Prop} {free : Addr → Prop} {Ts : List Cond} {own : String} {As rest : List Value} {g : JFrame}
    (S : CallFix p m c cc nL s args Ts own) (hM : Met l y ws rm Pc Qc mc ms free) (cw : vx_CSW R s args own index y bytes maxL ret hh ws rm mc ms n) (hp : PreS s H Pc As)
    (hg : g.method = m) (hn : As.length = n) (hsize : g.locals.size = nL) (hstack : g.stack = As.reverse ++ rest) (hW : 2 * g.monitorRoom + (rest.map fun v => v.category).sum ≤ 8) (hdg : decode cc g.pc = .ok (.invokestatic index, 3)) (hf : cells + mc ≤ R.cells ∧ slots + ms ≤ R.slots) :
    va_Run p l e R s m args below meth c H locs cells slots mc ms g rest (Qc As.toArray) (free) := by
  obtain ⟨⟨hrc, hrs, hfr, hlo, hws, hcw⟩, hcode, hini, hy, hlen, hl, hstt⟩ := cw
  have hK : Back l R p e below s args y 3 8 (PreOf R mc ms Pc) (PostOf Qc mc ms free) := va_backW (hh := hh) (bytes := bytes) (maxL := maxL) (ret := ret) hM hp.1 hrc hrs hfr hlo hws hcw (fun a' U hW => word_at hW (Or.inl (by first | rfl | simp [Cond.onTables, Cond.keeps, Cond.steady])) hini)
  obtain ⟨hx, hb, hml, ho, -⟩ := S
  intro T hT X
  obtain ⟨v, vm₁, ⟨U', l2, c2, s2⟩, hW₁, X', ⟨g', mk, t, L, e1, e2, hq, h1, hL, h2, h3⟩, st⟩ := vx_callSW X hx (hh := hh) (bytes := bytes) (maxL := maxL) (ret := ret) ho hl hstt hini hcode hy hK hg (hsize.trans hml.symm) (argsL := As) (rest := rest) (fun sig h => hn.trans (hlen sig h)) hstack hW (by rw [hb]; exact hdg)
    (fun vm₁ hW₁ => ⟨hf.1, hf.2, hp.2 (T.setVm vm₁) hT hW₁⟩)
  dsimp only [Pt.U, Pt.locs, Pt.cells, Pt.slots] at X' e1 e2 h1 h2 h3 st
  subst h1; subst h2; subst h3
  exact ⟨v, (T.setVm vm₁).calling g' mk As.toArray, t, U', L, hT, X', hL, e1, e2, hq, st⟩
/-- a thing of a world lies in the heap -/
theorem vx_lt {D : va_G} {cl : List vw_C} {ws : va_W} {H1 : Heap} (h : va_P D cl ws H1) {k : Nat} {q : Nat × va_E} (hk : ws[k]? = some q) : q.1 < H1.size := (h k q hk).lt
end VXS
/-! ===== END ===== -/
/-! ===== BEGIN methods with a table of their own: called by a name, returning or throwing ===== -/
section VXH
/-! vx_backW, vx_callVX, vx_callSX, vx_callVW, vx_runVW, vx_runVX, vx_runSX, vx_ofWH follow the same proofs as their sisters above (Free/Laws.lean, Shelf42/LK1.lean); vx_outP calls Shelf42/NT130.lean (outThrough). -/
section
variable {l : Launch} {R : Room} {p : Program} {e : Env} {below : List Frame} {s : State} {sargs : Array Value} {y : MethodName} {len W9 : Nat}
theorem vx_backW {ws : List Cond} {rm : Room} {Pc : Array Value → State → Prop} {Qc : Array Value → State → Outcome → State → Prop} {XC : String → State → State → Prop} {mc ms : Nat} {free : Addr → Prop} {bytes : ByteArray} {maxL : Nat} {ret : Option FieldType} {hh : List (Nat × Nat × Nat × Nat)}
    (hM : vx_Met l y ws rm Pc Qc XC mc ms free) (hblind : FrameBlind Pc) (hrc : rm.cells = mc) (hrs : rm.slots = ms)
    (hframes : rm.frames + 1 ≤ R.frames) (hlocals : W9 + (maxL + 11) + rm.locals ≤ R.locals)
    (hws : ∀ w ∈ ws, ∀ a' U, s.WarmedH U.vm → w.before a' U = true) (hcode : Cond.codeWith y bytes maxL ret hh ∈ ws) (hinit : ∀ a' U, s.WarmedH U.vm → (Cond.initialized y.cls).before a' U = true) :
    vx_Back l R p e below s sargs y len W9 (PreOf R mc ms Pc) (PostOf Qc mc ms free) (vx_Post XC mc ms free) := by
  intro m meth c A g ig mk a X hg hsize hdg hW hn hp
  have h1 : (headSpec ws rm).pre.before a A.U = true := atoms_intro fun w hw => hws w hw _ _ X.warmed
  have h2 : (Cond.codeWith y bytes maxL ret hh).before a A.U = true := hws _ hcode _ _ X.warmed
  have h3 : (Cond.initialized y.cls).before a A.U = true := hinit _ _ X.warmed
  have h4 : A.cells + (headSpec ws rm).room.cells ≤ R.cells := by rw [show (headSpec ws rm).room.cells = mc from hrc]; exact hp.1
  have h5 : A.slots + (headSpec ws rm).room.slots ≤ R.slots := by rw [show (headSpec ws rm).room.slots = ms from hrs]; exact hp.2.1
  have hPc : Pc a (A.U.calling g mk a) := hblind _ _ _ _ hp.2.2
  obtain ⟨U, Ls, c0, s0⟩ := A
  dsimp only [Pt.U, Pt.locs, Pt.cells, Pt.slots] at h1 h2 h3 h4 h5 X hn hPc ⊢
  obtain ⟨m9, methY, cY, hn9, hmY, hcY, -, hlY, -⟩ := Cond.codeWith_spec h2
  cases Option.some.inj (hn9.symm.trans hn)
  obtain ⟨kY, hkY, -⟩ := className_of_methodNamed hn
  have hinitY : kY.init = .initialized := Cond.initialized_spec (findClass_of_methodNamed hn) hkY h3
  have h : At U g.method c below := by rw [hg]; exact X.here
  have hlocals9 : W9 + (maxL + 11) + (headSpec ws rm).room.locals ≤ R.locals := hlocals
  have happ : (headSpec ws rm).appliesLoose y e.platform (U.calling g mk a) = true :=
    Spec.appliesLoose_calling (g := g) h hdg hn hkY hinitY
      (X.room_calling (g := g) (R' := (headSpec ws rm).room) hsize hmY hcY hframes (by rw [hlY]; omega) h4 h5) h1
  obtain ⟨mid, hmid⟩ := h.above
  have hfr : (U.setTop g).frames = (.java g :: mid) ++ below := by rw [State.frames_setTop' g h.top, hmid]; rfl
  obtain ⟨o, s₂, hsteps, -, hend, hq⟩ := Steps.callFree hM p X.admits X.cas X.clock (acts := []) hfr happ hPc trivial
  have hq' : vx_Q Qc XC mc ms free a (U.calling g mk a) o s₂ := hq
  rw [State.frames_setTop' g h.top] at hend
  obtain ⟨g₀, hg0⟩ := Option.isSome_iff_exists.mp h.top
  obtain ⟨r, hr⟩ := State.topJava?_eq_some.mp hg0
  have hr' : (({ U with heap := s₂.heap, slotsUsed := s₂.slotsUsed } : State).setVm s₂.vm).frames = .java g₀ :: r := hr
  rcases hq' with ⟨hqc, L, hfe, hL⟩ | ⟨q, rfl, E, ce, L, hx, hce, hcv, hcl, hW₂, hsm, hL⟩
  · obtain ⟨⟨v, rfl⟩, hW₂, e2, q2, q3, q4, q5, q6⟩ := id hfe
    have e3 : s₂ = ({ (U.calling g mk a).setFrames s₂.frames with heap := s₂.heap, slotsUsed := s₂.slotsUsed } : State).setVm s₂.vm := by
      have : s₂ = ({ s₂ with vm := (U.calling g mk a).vm } : State).setVm s₂.vm := rfl
      rw [e2] at this
      exact this
    obtain ⟨c₂, i₂, len₂, hc₂, hd₂, hf₂⟩ := hend
    have hW' : U.WarmedH s₂.vm := hW₂
    have hcc : c₂ = c := by
      have h1 : s₂.code? g.method = U.code? g.method := by
        rw [State.code?_eq, State.code?_eq, hW'.alike.method?]
      exact Option.some.inj (hc₂.symm.trans (h1.trans h.code))
    subst hcc
    have hlen : len₂ = len := by rw [hdg] at hd₂; cases hd₂; rfl
    subst hlen
    have hs₂ : s₂ = (({ U with heap := s₂.heap, slotsUsed := s₂.slotsUsed } : State).setVm s₂.vm).setTop { g with pc := g.pc + len₂, stack := v.toList ++ g.stack } := by
      refine e3.trans ?_
      rw [hf₂, State.calling_eq h.top, State.setFrames_setFrames, State.setTop_of_frames _ hr', hr]
      rfl
    have hsame : U.sameButNew ({ U with heap := s₂.heap, slotsUsed := s₂.slotsUsed } : State) L mc ms := by
      refine ⟨?_, q2, q3, q4, q5, q6⟩
      obtain ⟨t, ht, -⟩ := State.frames_cons hr
      show ({ U with heap := s₂.heap, slotsUsed := s₂.slotsUsed } : State) = { U.setFrames U.frames with heap := s₂.heap, slotsUsed := s₂.slotsUsed }
      rw [State.setFrames_self ht]
    subst hg
    refine Or.inl ⟨v, ⟨(({ U with heap := s₂.heap, slotsUsed := s₂.slotsUsed } : State).setVm s₂.vm), Ls ++ L, c0 + mc, s0 + ms⟩,
      ⟨X.admits, X.cas, X.clock, X.frames, X.room, X.hears, X.method, X.code, (X.here.setHeapUsed s₂.heap s₂.slotsUsed).setVm hW'.alike, X.tail, State.WarmedH.trans X.warmed hW', X.limits, X.bytes, X.same.trans (hsame.setVm s.vm)⟩,
      ⟨g, mk, s₂, L, rfl, rfl, hqc, rfl, hL, rfl, rfl⟩, ?_⟩
    show Steps p.tables e below _ ((({ U with heap := s₂.heap, slotsUsed := s₂.slotsUsed } : State).setVm s₂.vm).setTop { g with pc := g.pc + len₂, stack := v.toList ++ g.stack })
    rw [← hs₂]
    exact hsteps
  · obtain ⟨e2, q2, q3, q4, q5, q6⟩ := id hsm
    have e3 : s₂ = ({ (U.calling g mk a).setFrames s₂.frames with heap := s₂.heap, slotsUsed := s₂.slotsUsed } : State).setVm s₂.vm := by
      have : s₂ = ({ s₂ with vm := (U.calling g mk a).vm } : State).setVm s₂.vm := rfl
      rw [e2] at this
      exact this
    have hf₂ : s₂.frames = .throwing q :: .java g :: U.frames.tail := hend
    have hW' : U.WarmedH s₂.vm := hW₂
    have hs₂ : s₂ = ((({ U with heap := s₂.heap, slotsUsed := s₂.slotsUsed } : State).setVm s₂.vm).setTop g).pushFrame (.throwing q) := by
      refine e3.trans ?_
      rw [hf₂, State.calling_eq h.top, State.setFrames_setFrames, State.pushFrame, State.frames_setTop _ hr', State.setTop_of_frames _ hr', State.setFrames_setFrames, hr]
      rfl
    have hsame : U.sameButNew ({ U with heap := s₂.heap, slotsUsed := s₂.slotsUsed } : State) L mc ms := by
      refine ⟨?_, q2, q3, q4, q5, q6⟩
      obtain ⟨t, ht, -⟩ := State.frames_cons hr
      show ({ U with heap := s₂.heap, slotsUsed := s₂.slotsUsed } : State) = { U.setFrames U.frames with heap := s₂.heap, slotsUsed := s₂.slotsUsed }
      rw [State.setFrames_self ht]
    subst hg
    refine Or.inr ⟨q, ⟨(({ U with heap := s₂.heap, slotsUsed := s₂.slotsUsed } : State).setVm s₂.vm), Ls ++ L, c0 + mc, s0 + ms⟩,
      ⟨X.admits, X.cas, X.clock, X.frames, X.room, X.hears, X.method, X.code, (X.here.setHeapUsed s₂.heap s₂.slotsUsed).setVm hW'.alike, X.tail, State.WarmedH.trans X.warmed hW', X.limits, X.bytes, X.same.trans (hsame.setVm s.vm)⟩,
      ⟨g, mk, s₂, L, E, ce, rfl, rfl, hx, hce, hcv, hcl, rfl, hL, rfl, rfl⟩, ?_⟩
    show Steps p.tables e below _ (((({ U with heap := s₂.heap, slotsUsed := s₂.slotsUsed } : State).setVm s₂.vm).setTop g).pushFrame (.throwing q))
    rw [← hs₂]
    exact hsteps
end
variable {p : Program} {l : Launch} {e : Env} {R : Room} {s : State} {m : MethodId} {args : Array Value} {below : List Frame} {meth : Method} {c : Code} {T : State} {H : Heap} {locs : List Loc} {cells slots : Nat}
theorem vx_callVX (X : Stand p l e R s m args below meth c T locs cells slots) (hexec : p.tables.exec = Jvm.exec) {own C : String} {index : Nat} {y : MethodName} {bytes : ByteArray} {maxL : Nat} {ret : Option FieldType} {hh : List (Nat × Nat × Nat × Nat)}
    (hown : s.vm.findClass own = some m.cls) (hlink : (Cond.methodLink own index y).before args s = true) (hinst : (Cond.instanceMethod y).before args s = true) (hsel : (Cond.selects C y y).before args s = true)
    (hcode : (Cond.codeWith y bytes maxL ret hh).before args s = true) (hy : y.cls ≠ "java/lang/invoke/MethodHandle" ∧ y.cls ≠ "java/lang/invoke/VarHandle")
    {W9 : Nat} {Pre : Pt → Array Value → Prop} {Post : Pt → Array Value → Option Value → Pt → Prop} {PostX : Pt → Array Value → Addr → Pt → Prop} (hK : vx_Back l R p e below s args y 3 W9 Pre Post PostX)
    {b : Addr} {cellB : Cell} (hcell : T.heap[b]? = some cellB) (hobj : cellB.vm.isStatics = false) (hcls : s.vm.findClass C = some cellB.cls)
    {g : JFrame} (hg : g.method = m) (hsize : g.locals.size = c.maxLocals) {argsL rest : List Value} (hlen : ∀ sig, parseMethodDescriptor y.desc = some sig → argsL.length = sig.parameters.length)
    (hstack : g.stack = argsL.reverse ++ .ref b :: rest) (hW : 2 * g.monitorRoom + (rest.map fun v => v.category).sum ≤ W9) (hdg : decode c.code g.pc = .ok (.invokevirtual index, 3))
    (hpre : ∀ vm₁, s.WarmedH vm₁ → Pre ⟨T.setVm vm₁, locs, cells, slots⟩ (Value.ref b :: argsL).toArray) :
    (∃ (v : Option Value) (vm₁ : Vm) (B : Pt), s.WarmedH vm₁ ∧ Stand p l e R s m args below meth c B.U B.locs B.cells B.slots ∧ Post ⟨T.setVm vm₁, locs, cells, slots⟩ (Value.ref b :: argsL).toArray v B ∧
      ∀ target, Steps p.tables e below (B.U.setTop { g with pc := g.pc + 3, stack := v.toList ++ rest }) target → Steps p.tables e below (T.setTop g) target) ∨
    (∃ (q : Addr) (vm₁ : Vm) (B : Pt), s.WarmedH vm₁ ∧ Stand p l e R s m args below meth c B.U B.locs B.cells B.slots ∧ PostX ⟨T.setVm vm₁, locs, cells, slots⟩ (Value.ref b :: argsL).toArray q B ∧
      Steps p.tables e below (T.setTop g) ((B.U.setTop { g with stack := rest }).pushFrame (.throwing q))) := by
  obtain ⟨mk, methM, hnamed, hmethM, hstM, habM⟩ := Cond.instanceMethod_spec hinst
  obtain ⟨m8, methM', cM, hn8, hmethM', -, -, -, -, -, -, hsigM⟩ := Cond.codeWith_spec hcode
  cases Option.some.inj (hn8.symm.trans hnamed)
  cases hmethM.symm.trans hmethM'
  obtain ⟨c2, r2, m2, q1, q2, q3, q4, kP, hkP, hkPi⟩ := Cond.selects_spec hsel
  cases hcls.symm.trans q1
  cases (State.methodFound?_of_named hnamed hy).symm.trans q2
  cases hnamed.symm.trans q3
  have hselP : selectMethod e.platform s.vm cellB.cls mk = .method mk := by rw [Launch.admits_selectMethod X.admits]; exact q4
  obtain ⟨vm₁, X₁, hstep₁⟩ := X.invokevirtual hexec hown hlink hnamed hmethM hstM hkP hkPi hy (a := b) (cell := cellB) hcell
    (fun z h => by rw [h] at hobj; cases hobj) hselP hmethM habM hkP hkPi (g := g) hg (argsL := argsL) (rest := rest) (hlen _ hsigM) hstack hdg
  rcases hK m meth c ⟨T.setVm vm₁, locs, cells, slots⟩ { g with stack := rest } (.invokevirtual index) mk (Value.ref b :: argsL).toArray X₁ hg hsize hdg hW (X₁.named hnamed) (hpre vm₁ X₁.warmed) with ⟨v, B, X', hpost, hsteps⟩ | ⟨q, B, X', hpost, hsteps⟩
  · exact Or.inl ⟨v, vm₁, B, X₁.warmed, X', hpost, fun target h => hstep₁ _ fun acts => by rw [doInvoke_state]; exact hsteps.trans h⟩
  · exact Or.inr ⟨q, vm₁, B, X₁.warmed, X', hpost, hstep₁ _ fun acts => by rw [doInvoke_state]; exact hsteps⟩
theorem vx_callSX (X : Stand p l e R s m args below meth c T locs cells slots) (hexec : p.tables.exec = Jvm.exec) {own : String} {index : Nat} {y : MethodName} {bytes : ByteArray} {maxL : Nat} {ret : Option FieldType} {hh : List (Nat × Nat × Nat × Nat)}
    (hown : s.vm.findClass own = some m.cls) (hlink : (Cond.methodLink own index y).before args s = true) (hstat : (Cond.static y).before args s = true) (hinit : (Cond.initialized y.cls).before args s = true)
    (hcode : (Cond.codeWith y bytes maxL ret hh).before args s = true) (hy : y.cls ≠ "java/lang/invoke/MethodHandle" ∧ y.cls ≠ "java/lang/invoke/VarHandle")
    {W9 : Nat} {Pre : Pt → Array Value → Prop} {Post : Pt → Array Value → Option Value → Pt → Prop} {PostX : Pt → Array Value → Addr → Pt → Prop} (hK : vx_Back l R p e below s args y 3 W9 Pre Post PostX)
    {g : JFrame} (hg : g.method = m) (hsize : g.locals.size = c.maxLocals) {argsL rest : List Value} (hlen : ∀ sig, parseMethodDescriptor y.desc = some sig → argsL.length = sig.parameters.length)
    (hstack : g.stack = argsL.reverse ++ rest) (hW : 2 * g.monitorRoom + (rest.map fun v => v.category).sum ≤ W9) (hdg : decode c.code g.pc = .ok (.invokestatic index, 3))
    (hpre : ∀ vm₁, s.WarmedH vm₁ → Pre ⟨T.setVm vm₁, locs, cells, slots⟩ argsL.toArray) :
    (∃ (v : Option Value) (vm₁ : Vm) (B : Pt), s.WarmedH vm₁ ∧ Stand p l e R s m args below meth c B.U B.locs B.cells B.slots ∧ Post ⟨T.setVm vm₁, locs, cells, slots⟩ argsL.toArray v B ∧
      ∀ target, Steps p.tables e below (B.U.setTop { g with pc := g.pc + 3, stack := v.toList ++ rest }) target → Steps p.tables e below (T.setTop g) target) ∨
    (∃ (q : Addr) (vm₁ : Vm) (B : Pt), s.WarmedH vm₁ ∧ Stand p l e R s m args below meth c B.U B.locs B.cells B.slots ∧ PostX ⟨T.setVm vm₁, locs, cells, slots⟩ argsL.toArray q B ∧
      Steps p.tables e below (T.setTop g) ((B.U.setTop { g with stack := rest }).pushFrame (.throwing q))) := by
  obtain ⟨mk, methM, cM, hnamed, hmethM, -, -, -, -, -, -, hsigM⟩ := Cond.codeWith_spec hcode
  have hstatic : methM.isStatic = true := Cond.static_spec hnamed hmethM hstat
  obtain ⟨kP, hkP, -⟩ := className_of_methodNamed hnamed
  have hinitP : kP.init = .initialized := Cond.initialized_spec (findClass_of_methodNamed hnamed) hkP hinit
  obtain ⟨vm₁, X₁, hstep₁⟩ := X.invokestatic hexec hown hlink hnamed hmethM hstatic hkP hinitP hy (g := g) hg (argsL := argsL) (rest := rest) (hlen _ hsigM) hstack hdg
  rcases hK m meth c ⟨T.setVm vm₁, locs, cells, slots⟩ { g with stack := rest } (.invokestatic index) mk argsL.toArray X₁ hg hsize hdg hW (X₁.named hnamed) (hpre vm₁ X₁.warmed) with ⟨v, B, X', hpost, hsteps⟩ | ⟨q, B, X', hpost, hsteps⟩
  · exact Or.inl ⟨v, vm₁, B, X₁.warmed, X', hpost, fun target h => hstep₁ _ fun acts => by rw [doInvoke_state]; exact hsteps.trans h⟩
  · exact Or.inr ⟨q, vm₁, B, X₁.warmed, X', hpost, hstep₁ _ fun acts => by rw [doInvoke_state]; exact hsteps⟩
theorem vx_callVW (X : Stand p l e R s m args below meth c T locs cells slots) (hexec : p.tables.exec = Jvm.exec) {own C : String} {index : Nat} {y : MethodName} {bytes : ByteArray} {maxL : Nat} {ret : Option FieldType} {hh : List (Nat × Nat × Nat × Nat)}
    (hown : s.vm.findClass own = some m.cls) (hlink : (Cond.methodLink own index y).before args s = true) (hinst : (Cond.instanceMethod y).before args s = true) (hsel : (Cond.selects C y y).before args s = true)
    (hcode : (Cond.codeWith y bytes maxL ret hh).before args s = true) (hy : y.cls ≠ "java/lang/invoke/MethodHandle" ∧ y.cls ≠ "java/lang/invoke/VarHandle")
    {W9 : Nat} {Pre : Pt → Array Value → Prop} {Post : Pt → Array Value → Option Value → Pt → Prop} (hK : Back l R p e below s args y 3 W9 Pre Post)
    {b : Addr} {cellB : Cell} (hcell : T.heap[b]? = some cellB) (hobj : cellB.vm.isStatics = false) (hcls : s.vm.findClass C = some cellB.cls)
    {g : JFrame} (hg : g.method = m) (hsize : g.locals.size = c.maxLocals) {argsL rest : List Value} (hlen : ∀ sig, parseMethodDescriptor y.desc = some sig → argsL.length = sig.parameters.length)
    (hstack : g.stack = argsL.reverse ++ .ref b :: rest) (hW : 2 * g.monitorRoom + (rest.map fun v => v.category).sum ≤ W9) (hdg : decode c.code g.pc = .ok (.invokevirtual index, 3))
    (hpre : ∀ vm₁, s.WarmedH vm₁ → Pre ⟨T.setVm vm₁, locs, cells, slots⟩ (Value.ref b :: argsL).toArray) :
    ∃ (v : Option Value) (vm₁ : Vm) (B : Pt), s.WarmedH vm₁ ∧ Stand p l e R s m args below meth c B.U B.locs B.cells B.slots ∧ Post ⟨T.setVm vm₁, locs, cells, slots⟩ (Value.ref b :: argsL).toArray v B ∧
      ∀ target, Steps p.tables e below (B.U.setTop { g with pc := g.pc + 3, stack := v.toList ++ rest }) target → Steps p.tables e below (T.setTop g) target := by
  obtain ⟨mk, methM, hnamed, hmethM, hstM, habM⟩ := Cond.instanceMethod_spec hinst
  obtain ⟨m8, methM', cM, hn8, hmethM', -, -, -, -, -, -, hsigM⟩ := Cond.codeWith_spec hcode
  cases Option.some.inj (hn8.symm.trans hnamed)
  cases hmethM.symm.trans hmethM'
  obtain ⟨c2, r2, m2, q1, q2, q3, q4, kP, hkP, hkPi⟩ := Cond.selects_spec hsel
  cases hcls.symm.trans q1
  cases (State.methodFound?_of_named hnamed hy).symm.trans q2
  cases hnamed.symm.trans q3
  have hselP : selectMethod e.platform s.vm cellB.cls mk = .method mk := by rw [Launch.admits_selectMethod X.admits]; exact q4
  obtain ⟨vm₁, X₁, hstep₁⟩ := X.invokevirtual hexec hown hlink hnamed hmethM hstM hkP hkPi hy (a := b) (cell := cellB) hcell
    (fun z h => by rw [h] at hobj; cases hobj) hselP hmethM habM hkP hkPi (g := g) hg (argsL := argsL) (rest := rest) (hlen _ hsigM) hstack hdg
  obtain ⟨v, B, X', hpost, hsteps⟩ := hK m meth c ⟨T.setVm vm₁, locs, cells, slots⟩ { g with stack := rest } (.invokevirtual index) mk (Value.ref b :: argsL).toArray X₁ hg hsize hdg hW (X₁.named hnamed) (hpre vm₁ X₁.warmed)
  exact ⟨v, vm₁, B, X₁.warmed, X', hpost, fun target h => hstep₁ _ fun acts => by rw [doInvoke_state]; exact hsteps.trans h⟩
abbrev vx_CVW (R : Room) (s : State) (args : Array Value) (own C : String) (index : Nat) (y : MethodName) (bytes : ByteArray) (maxL : Nat) (ret : Option FieldType) (hh : List (Nat × Nat × Nat × Nat)) (ws : List Cond) (rm : Room) (mc ms n : Nat) : Prop :=
  (rm.cells = mc ∧ rm.slots = ms ∧ rm.frames + 1 ≤ R.frames ∧ 8 + (maxL + 11) + rm.locals ≤ R.locals ∧ (∀ w ∈ ws, ∀ (a' : Array Value) (U : State), s.WarmedH U.vm → w.before a' U = true) ∧ Cond.codeWith y bytes maxL ret hh ∈ ws) ∧
  (Cond.codeWith y bytes maxL ret hh).before args s = true ∧ (Cond.initialized y.cls).before args s = true ∧ (y.cls ≠ "java/lang/invoke/MethodHandle" ∧ y.cls ≠ "java/lang/invoke/VarHandle") ∧
  (∀ sig, parseMethodDescriptor y.desc = some sig → n = sig.parameters.length) ∧ (Cond.methodLink own index y).before args s = true ∧ (Cond.instanceMethod y).before args s = true ∧ (Cond.selects C y y).before args s = true
theorem vx_cwVW {own C : String} {index maxL mc ms : Nat} {y : MethodName} {bytes : ByteArray} {ret : Option FieldType} {hh : List (Nat × Nat × Nat × Nat)} {Ts ws ws' : List Cond} {rm : Room} (n : Nat) (ht : ∀ w ∈ Ts, w.before args s = true) (hT : GoodIn Ts (wsV own index C y ws)) (hw : ws = Cond.codeWith y bytes maxL ret hh :: ws') (hrc : rm.cells = mc) (hrs : rm.slots = ms)
    (hd : y.cls = C ∧ y.cls ≠ "java/lang/invoke/MethodHandle" ∧ y.cls ≠ "java/lang/invoke/VarHandle" ∧ (parseMethodDescriptor y.desc).map (fun d => d.parameters.length) = some n) (hR : rm.frames + 1 ≤ R.frames ∧ 8 + (maxL + 11) + rm.locals ≤ R.locals) :
    vx_CVW R s args own C index y bytes maxL ret hh ws rm mc ms n := by
  obtain ⟨hC, hd⟩ := hd
  subst hC
  have ok : ∀ w ∈ wsV own index y.cls y ws, w.before args s = true := fun w h => ht w (hT w h).1
  have hG : GoodIn Ts ws := fun w h => hT w (by unfold wsV; exact List.mem_append_right _ h)
  have hc : Cond.codeWith y bytes maxL ret hh ∈ ws := by rw [hw]; exact List.mem_cons_self
  refine ⟨⟨hrc, hrs, hR.1, hR.2, pay_in ht hG, hc⟩, ht _ (hG _ hc).1, ok _ (by simp [wsV]), ⟨hd.1, hd.2.1⟩, fun sig h => ?_, ok _ (by simp [wsV]), ok _ (by simp [wsV]), ok _ (by simp [wsV])⟩
  have h2 := hd.2.2
  rw [h] at h2
  exact (Option.some.inj h2).symm
theorem vx_runVW {y : MethodName} {bytes cc : ByteArray} {maxL nL mc ms n index : Nat} {ret : Option FieldType} {hh : List (Nat × Nat × Nat × Nat)} {ws : List Cond} {rm : Room} {Pc : Array Value → State → Prop} {Qc : Array Value → State → Outcome → State → Prop} {free : Addr → Prop} {Ts : List Cond} {own C : String} {b : Addr} {As rest : List Value} {g : JFrame}
    (S : CallFix p m c cc nL s args Ts own) (hM : Met l y ws rm Pc Qc mc ms free) (cw : vx_CVW R s args own C index y bytes maxL ret hh ws rm mc ms n) (hp : PreV s H C b Pc As)
    (hg : g.method = m) (hn : As.length = n) (hsize : g.locals.size = nL) (hstack : g.stack = As.reverse ++ .ref b :: rest) (hW : 2 * g.monitorRoom + (rest.map fun v => v.category).sum ≤ 8) (hdg : decode cc g.pc = .ok (.invokevirtual index, 3)) (hf : cells + mc ≤ R.cells ∧ slots + ms ≤ R.slots) :
    va_Run p l e R s m args below meth c H locs cells slots mc ms g rest (Qc (Value.ref b :: As).toArray) free := by
  obtain ⟨⟨hrc, hrs, hfr, hlo, hws, hcw⟩, hcode, hini, hy, hlen, hl, hin, hse⟩ := cw
  have hK : Back l R p e below s args y 3 8 (PreOf R mc ms Pc) (PostOf Qc mc ms free) := va_backW (hh := hh) (bytes := bytes) (maxL := maxL) (ret := ret) hM hp.1 hrc hrs hfr hlo hws hcw (fun a' U hW => word_at hW (Or.inl (by first | rfl | simp [Cond.onTables, Cond.keeps, Cond.steady])) hini)
  obtain ⟨hx, hb, hml, ho, -⟩ := S
  obtain ⟨-, ⟨cellB, hcB, hoB, hclB⟩, hPc⟩ := hp
  intro T hT X
  obtain ⟨v, vm₁, ⟨U', l2, c2, s2⟩, hW₁, X', ⟨g', mk, t, L, e1, e2, hq, h1, hL, h2, h3⟩, st⟩ := vx_callVW X hx (C := C) (hh := hh) (bytes := bytes) (maxL := maxL) (ret := ret) ho hl hin hse hcode hy hK (by rw [hT]; exact hcB) hoB hclB hg (hsize.trans hml.symm) (argsL := As) (rest := rest) (fun sig h => hn.trans (hlen sig h)) hstack hW (by rw [hb]; exact hdg)
    (fun vm₁ hW₁ => ⟨hf.1, hf.2, hPc (T.setVm vm₁) hT hW₁⟩)
  dsimp only [Pt.U, Pt.locs, Pt.cells, Pt.slots] at X' e1 e2 h1 h2 h3 st
  subst h1; subst h2; subst h3
  exact ⟨v, (T.setVm vm₁).calling g' mk (Value.ref b :: As).toArray, t, U', L, hT, X', hL, e1, e2, hq, st⟩
section
variable {y : MethodName} {bytes cc : ByteArray} {maxL nL mc ms n index : Nat} {ret : Option FieldType} {ws : List Cond} {rm : Room} {Pc : Array Value → State → Prop} {Qc : Array Value → State → Outcome → State → Prop} {XC : String → State → State → Prop} {free : Addr → Prop} {Ts : List Cond} {own C : String} {b : Addr} {As rest : List Value} {g : JFrame}
theorem vx_runVX {hh : List (Nat × Nat × Nat × Nat)} (S : CallFix p m c cc nL s args Ts own) (hM : vx_Met l y ws rm Pc Qc XC mc ms free) (cw : vx_CVW R s args own C index y bytes maxL ret hh ws rm mc ms n) (hp : PreV s H C b Pc As)
    (hg : g.method = m) (hn : As.length = n) (hsize : g.locals.size = nL) (hstack : g.stack = As.reverse ++ .ref b :: rest) (hW : 2 * g.monitorRoom + (rest.map fun v => v.category).sum ≤ 8) (hdg : decode cc g.pc = .ok (.invokevirtual index, 3)) (hf : cells + mc ≤ R.cells ∧ slots + ms ≤ R.slots) :
    vx_Run p l e R s m args below meth c H locs cells slots mc ms g rest (Qc (Value.ref b :: As).toArray) XC free := by
  obtain ⟨⟨hrc, hrs, hfr, hlo, hws, hcw⟩, hcode, hini, hy, hlen, hl, hin, hse⟩ := cw
  have hK : vx_Back l R p e below s args y 3 8 (PreOf R mc ms Pc) (PostOf Qc mc ms free) (vx_Post XC mc ms free) := vx_backW (hh := hh) (bytes := bytes) (maxL := maxL) (ret := ret) hM hp.1 hrc hrs hfr hlo hws hcw (fun a' U hW => word_at hW (Or.inl (by first | rfl | simp [Cond.onTables, Cond.keeps, Cond.steady])) hini)
  obtain ⟨hx, hb, hml, ho, -⟩ := S
  obtain ⟨-, ⟨cellB, hcB, hoB, hclB⟩, hPc⟩ := hp
  intro T hT X
  rcases vx_callVX X hx (C := C) (hh := hh) (bytes := bytes) (maxL := maxL) (ret := ret) ho hl hin hse hcode hy hK (by rw [hT]; exact hcB) hoB hclB hg (hsize.trans hml.symm) (argsL := As) (rest := rest) (fun sig h => hn.trans (hlen sig h)) hstack hW (by rw [hb]; exact hdg)
    (fun vm₁ hW₁ => ⟨hf.1, hf.2, hPc (T.setVm vm₁) hT hW₁⟩) with ⟨v, vm₁, ⟨U', l2, c2, s2⟩, hW₁, X', ⟨g', mk, t, L, e1, e2, hq, h1, hL, h2, h3⟩, st⟩ | ⟨q, vm₁, ⟨U', l2, c2, s2⟩, hW₁, X', ⟨g', mk, t, L, E, ce, e1, e2, hq, hce, hcv, hcl, h1, hL, h2, h3⟩, st⟩
  · dsimp only [Pt.U, Pt.locs, Pt.cells, Pt.slots] at X' e1 e2 h1 h2 h3 st
    subst h1; subst h2; subst h3
    exact Or.inl ⟨v, (T.setVm vm₁).calling g' mk (Value.ref b :: As).toArray, t, U', L, hT, X', hL, e1, e2, hq, st⟩
  · dsimp only [Pt.U, Pt.locs, Pt.cells, Pt.slots] at X' e1 e2 h1 h2 h3 st hcl
    subst h1; subst h2; subst h3
    exact Or.inr ⟨q, (T.setVm vm₁).calling g' mk (Value.ref b :: As).toArray, t, U', L, E, ce, hT, X', hL, e1, e2, hq, hce, hcv, vx_cls hW₁ hcl, st⟩
theorem vx_runSX {hh : List (Nat × Nat × Nat × Nat)} (S : CallFix p m c cc nL s args Ts own) (hM : vx_Met l y ws rm Pc Qc XC mc ms free) (cw : vx_CSW R s args own index y bytes maxL ret hh ws rm mc ms n) (hp : PreS s H Pc As)
    (hg : g.method = m) (hn : As.length = n) (hsize : g.locals.size = nL) (hstack : g.stack = As.reverse ++ rest) (hW : 2 * g.monitorRoom + (rest.map fun v => v.category).sum ≤ 8) (hdg : decode cc g.pc = .ok (.invokestatic index, 3)) (hf : cells + mc ≤ R.cells ∧ slots + ms ≤ R.slots) :
    vx_Run p l e R s m args below meth c H locs cells slots mc ms g rest (Qc As.toArray) XC free := by
  obtain ⟨⟨hrc, hrs, hfr, hlo, hws, hcw⟩, hcode, hini, hy, hlen, hl, hstt⟩ := cw
  have hK : vx_Back l R p e below s args y 3 8 (PreOf R mc ms Pc) (PostOf Qc mc ms free) (vx_Post XC mc ms free) := vx_backW (hh := hh) (bytes := bytes) (maxL := maxL) (ret := ret) hM hp.1 hrc hrs hfr hlo hws hcw (fun a' U hW => word_at hW (Or.inl (by first | rfl | simp [Cond.onTables, Cond.keeps, Cond.steady])) hini)
  obtain ⟨hx, hb, hml, ho, -⟩ := S
  intro T hT X
  rcases vx_callSX X hx (hh := hh) (bytes := bytes) (maxL := maxL) (ret := ret) ho hl hstt hini hcode hy hK hg (hsize.trans hml.symm) (argsL := As) (rest := rest) (fun sig h => hn.trans (hlen sig h)) hstack hW (by rw [hb]; exact hdg)
    (fun vm₁ hW₁ => ⟨hf.1, hf.2, hp.2 (T.setVm vm₁) hT hW₁⟩) with ⟨v, vm₁, ⟨U', l2, c2, s2⟩, hW₁, X', ⟨g', mk, t, L, e1, e2, hq, h1, hL, h2, h3⟩, st⟩ | ⟨q, vm₁, ⟨U', l2, c2, s2⟩, hW₁, X', ⟨g', mk, t, L, E, ce, e1, e2, hq, hce, hcv, hcl, h1, hL, h2, h3⟩, st⟩
  · dsimp only [Pt.U, Pt.locs, Pt.cells, Pt.slots] at X' e1 e2 h1 h2 h3 st
    subst h1; subst h2; subst h3
    exact Or.inl ⟨v, (T.setVm vm₁).calling g' mk As.toArray, t, U', L, hT, X', hL, e1, e2, hq, st⟩
  · dsimp only [Pt.U, Pt.locs, Pt.cells, Pt.slots] at X' e1 e2 h1 h2 h3 st hcl
    subst h1; subst h2; subst h3
    exact Or.inr ⟨q, (T.setVm vm₁).calling g' mk As.toArray, t, U', L, E, ce, hT, X', hL, e1, e2, hq, hce, hcv, vx_cls hW₁ hcl, st⟩
end
end VXH
theorem vx_ofWH {l : Launch} {y : MethodName} {ws ws' : List Cond} {rm : Room} {Pc : Array Value → State → Prop} {Qc : Array Value → State → Outcome → State → Prop} {XC : String → State → State → Prop} {mc ms : Nat} {free : Addr → Prop} {cc : ByteArray} {maxL : Nat} {ret : Option FieldType} {hh : List (Nat × Nat × Nat × Nat)}
    (hy : plainName y.cls = true) (hw : ws = Cond.codeWith y cc maxL ret hh :: ws')
    (body : ∀ p e s m args below meth c s₁, BodyLoose p l y (headSpec ws rm) cc maxL ret e s m args below meth c s₁ → c.maxLocals = maxL → Pc args s →
      W p l e (headSpec ws rm).room s m args below meth c s.heap [] 0 0 (vx_MQ below Qc XC args s mc ms free) (entryFrame m args maxL)) : vx_Met l y ws rm Pc Qc XC mc ms free := by
  refine MetFree.of_bodyS (code := cc) (maxLocals := maxL) (ret := ret) hy ?_ ?_
  · intro args s m h hn
    obtain ⟨m9, meth, c, hn9, h1, h2, h3, h4, -, h5, h6, -⟩ := Cond.codeWith_spec (atoms_spec (ws := ws) h _ (by rw [hw]; exact List.mem_cons_self))
    cases hn.symm.trans hn9
    exact ⟨meth, c, h1, h2, h3, h4, h5, h6⟩
  · intro p e s m args below meth c s₁ B hml hP _
    have hh0 : s₁.heap = s.heap := by rw [B.state]; rfl
    obtain ⟨t, a1, o, b1, b2, b3⟩ := body p e s m args below meth c s₁ B hml hP s₁ hh0 (Stand.of_body B)
    exact ⟨t, o, a1, b1, b2, b3⟩
/-! ===== END ===== -/
end
section
/-! ===== BEGIN printed: names, fields, word lists, decode rows ===== -/
def RX0 : String := "TwoTimesTable$States"
def TX0 : u_T := fun k => match k with
  | 0 => ("TwoTimesTable$States", "values", "[I", true)
  | 1 => ("TwoTimesTable$States", "filled", "[I", true)
  | 2 => ("TwoTimesTable$States", "rowsBegun", "[I", true)
  | _ => ("TwoTimesTable$States", "present", "I", false)
def tyX0 : Nat → FieldType := fun k => match k with
  | 0 => .array .int
  | 1 => .array .int
  | 2 => .array .int
  | _ => .int
abbrev wsX00 : List Cond := u_ws RX0 TX0 4
theorem nmX0 : ∀ a, a < 4 → ∀ b, b < 4 → a ≠ b → (TX0 a).2.1 ≠ (TX0 b).2.1 := by decide +kernel
theorem tyX0_ok : ∀ k, k < 4 → parseFieldDescriptor (TX0 k).2.2.1 = some (tyX0 k) := by decide +kernel
abbrev cX0_init : ByteArray := prog_2_method_1_code
def yX0_init : MethodName := ⟨RX0, "<init>", "()V"⟩
abbrev cX0_goOn : ByteArray := prog_2_method_2_code
def yX0_goOn : MethodName := ⟨RX0, "goOn", "()V"⟩
abbrev cX0_save : ByteArray := prog_2_method_3_code
def yX0_save : MethodName := ⟨RX0, "save", "()V"⟩
abbrev cX0_restore : ByteArray := prog_2_method_4_code
def yX0_restore : MethodName := ⟨RX0, "restore", "()V"⟩
abbrev cX0_copyState : ByteArray := prog_2_method_5_code
def yX0_copyState : MethodName := ⟨RX0, "copyState", "(II)V"⟩
abbrev cX0_perform : ByteArray := prog_2_method_6_code
def yX0_perform : MethodName := ⟨RX0, "perform", "(IIIII)I"⟩
abbrev cX0_maskOf : ByteArray := prog_2_method_7_code
def yX0_maskOf : MethodName := ⟨RX0, "maskOf", "(II)I"⟩
abbrev cX0_changeDay : ByteArray := prog_2_method_8_code
def yX0_changeDay : MethodName := ⟨RX0, "changeDay", "(IIII)Z"⟩
abbrev cX0_isFilled : ByteArray := prog_2_method_9_code
def yX0_isFilled : MethodName := ⟨RX0, "isFilled", "(II)Z"⟩
abbrev cX0_valueOn : ByteArray := prog_2_method_10_code
def yX0_valueOn : MethodName := ⟨RX0, "valueOn", "(II)I"⟩
abbrev cX0_differ : ByteArray := prog_2_method_11_code
def yX0_differ : MethodName := ⟨RX0, "differ", "(III)Z"⟩
abbrev cX0_startsRun : ByteArray := prog_2_method_12_code
def yX0_startsRun : MethodName := ⟨RX0, "startsRun", "(II)Z"⟩
abbrev cX0_continuesRun : ByteArray := prog_2_method_13_code
def yX0_continuesRun : MethodName := ⟨RX0, "continuesRun", "(II)Z"⟩
abbrev cX0_runEnd : ByteArray := prog_2_method_14_code
def yX0_runEnd : MethodName := ⟨RX0, "runEnd", "(II)I"⟩
abbrev cX0_countRuns : ByteArray := prog_2_method_15_code
def yX0_countRuns : MethodName := ⟨RX0, "countRuns", "(I)I"⟩
abbrev cX0_runStart : ByteArray := prog_2_method_16_code
def yX0_runStart : MethodName := ⟨RX0, "runStart", "(II)I"⟩
abbrev cX0_countRelated : ByteArray := prog_2_method_17_code
def yX0_countRelated : MethodName := ⟨RX0, "countRelated", "(IIII)I"⟩
abbrev cX0_countRows : ByteArray := prog_2_method_18_code
def yX0_countRows : MethodName := ⟨RX0, "countRows", "()I"⟩
abbrev cX0_recountRows : ByteArray := prog_2_method_19_code
def yX0_recountRows : MethodName := ⟨RX0, "recountRows", "(I)V"⟩
abbrev cX0_startsRow : ByteArray := prog_2_method_20_code
def yX0_startsRow : MethodName := ⟨RX0, "startsRow", "(II)Z"⟩
abbrev cX0_sharesRun : ByteArray := prog_2_method_21_code
def yX0_sharesRun : MethodName := ⟨RX0, "sharesRun", "(III)Z"⟩
abbrev cX0_rowPart : ByteArray := prog_2_method_22_code
def yX0_rowPart : MethodName := ⟨RX0, "rowPart", "(II)I"⟩
abbrev cX0_rowStart : ByteArray := prog_2_method_23_code
def yX0_rowStart : MethodName := ⟨RX0, "rowStart", "(II)I"⟩
abbrev cX0_partOfRow : ByteArray := prog_2_method_24_code
def yX0_partOfRow : MethodName := ⟨RX0, "partOfRow", "(IIII)I"⟩
abbrev cX0_rowEnd : ByteArray := prog_2_method_25_code
def yX0_rowEnd : MethodName := ⟨RX0, "rowEnd", "(III)I"⟩
def RX1 : String := "TwoTimesTable$Waiting"
def TX1 : u_T := fun k => match k with
  | 0 => ("TwoTimesTable$Waiting", "words", "[I", true)
  | _ => ("TwoTimesTable$Waiting", "count", "I", false)
def tyX1 : Nat → FieldType := fun k => match k with
  | 0 => .array .int
  | _ => .int
abbrev wsX10 : List Cond := u_ws RX1 TX1 2
theorem nmX1 : ∀ a, a < 2 → ∀ b, b < 2 → a ≠ b → (TX1 a).2.1 ≠ (TX1 b).2.1 := by decide +kernel
theorem tyX1_ok : ∀ k, k < 2 → parseFieldDescriptor (TX1 k).2.2.1 = some (tyX1 k) := by decide +kernel
abbrev cX1_init : ByteArray := prog_3_method_1_code
def yX1_init : MethodName := ⟨RX1, "<init>", "()V"⟩
abbrev cX1_append : ByteArray := prog_3_method_2_code
def yX1_append : MethodName := ⟨RX1, "append", "(IIIII)Z"⟩
abbrev cX1_word : ByteArray := prog_3_method_3_code
def yX1_word : MethodName := ⟨RX1, "word", "(II)I"⟩
def RX2 : String := "TwoTimesTable"
def TX2 : u_T := fun k => match k with
  | 0 => ("TwoTimesTable", "states", "LTwoTimesTable$States;", true)
  | 1 => ("TwoTimesTable", "waiting", "LTwoTimesTable$Waiting;", true)
  | _ => ("TwoTimesTable", "failedNumber", "I", false)
def tyX2 : Nat → FieldType := fun k => match k with
  | 0 => .object "TwoTimesTable$States"
  | 1 => .object "TwoTimesTable$Waiting"
  | _ => .int
abbrev wsX20 : List Cond := u_ws RX2 TX2 3
theorem nmX2 : ∀ a, a < 3 → ∀ b, b < 3 → a ≠ b → (TX2 a).2.1 ≠ (TX2 b).2.1 := by decide +kernel
theorem tyX2_ok : ∀ k, k < 3 → parseFieldDescriptor (TX2 k).2.2.1 = some (tyX2 k) := by decide +kernel
abbrev cX2_init : ByteArray := prog_1_method_1_code
def yX2_init : MethodName := ⟨RX2, "<init>", "()V"⟩
abbrev cX2_tick : ByteArray := prog_1_method_2_code
def yX2_tick : MethodName := ⟨RX2, "tick", "()I"⟩
abbrev cX2_clock : ByteArray := prog_1_method_3_code
def yX2_clock : MethodName := ⟨RX2, "clock", "()I"⟩
abbrev cX2_state : ByteArray := prog_1_method_4_code
def yX2_state : MethodName := ⟨RX2, "state", "(IIIII)I"⟩
abbrev cX2_queue : ByteArray := prog_1_method_5_code
def yX2_queue : MethodName := ⟨RX2, "queue", "(IIIII)Z"⟩
abbrev cX2_commit : ByteArray := prog_1_method_6_code
def yX2_commit : MethodName := ⟨RX2, "commit", "()I"⟩
abbrev cX2_failed : ByteArray := prog_1_method_7_code
def yX2_failed : MethodName := ⟨RX2, "failed", "()I"⟩
abbrev cX2_value : ByteArray := prog_1_method_8_code
def yX2_value : MethodName := ⟨RX2, "value", "(III)I"⟩
abbrev cX2_has : ByteArray := prog_1_method_9_code
def yX2_has : MethodName := ⟨RX2, "has", "(III)Z"⟩
abbrev cX2_sum : ByteArray := prog_1_method_10_code
def yX2_sum : MethodName := ⟨RX2, "sum", "(IIII)J"⟩
abbrev cX2_runs : ByteArray := prog_1_method_11_code
def yX2_runs : MethodName := ⟨RX2, "runs", "(II)I"⟩
abbrev cX2_run : ByteArray := prog_1_method_12_code
def yX2_run : MethodName := ⟨RX2, "run", "(IIII)I"⟩
abbrev cX2_rows : ByteArray := prog_1_method_13_code
def yX2_rows : MethodName := ⟨RX2, "rows", "()I"⟩
abbrev cX2_row : ByteArray := prog_1_method_14_code
def yX2_row : MethodName := ⟨RX2, "row", "(II)I"⟩
abbrev cX2_changes : ByteArray := prog_1_method_15_code
def yX2_changes : MethodName := ⟨RX2, "changes", "(II)I"⟩
abbrev cX2_relation : ByteArray := prog_1_method_16_code
def yX2_relation : MethodName := ⟨RX2, "relation", "(IIII)I"⟩
abbrev cX2_join : ByteArray := prog_1_method_17_code
def yX2_join : MethodName := ⟨RX2, "join", "(IIII)I"⟩
abbrev cX2_refuse : ByteArray := prog_1_method_18_code
def yX2_refuse : MethodName := ⟨RX2, "refuse", "(I)V"⟩
abbrev cX2_isKey : ByteArray := prog_1_method_19_code
def yX2_isKey : MethodName := ⟨RX2, "isKey", "(I)Z"⟩
abbrev cX2_isDay : ByteArray := prog_1_method_20_code
def yX2_isDay : MethodName := ⟨RX2, "isDay", "(I)Z"⟩
abbrev cX2_isPeriod : ByteArray := prog_1_method_21_code
def yX2_isPeriod : MethodName := ⟨RX2, "isPeriod", "(II)Z"⟩
abbrev cX2_isTime : ByteArray := prog_1_method_22_code
def yX2_isTime : MethodName := ⟨RX2, "isTime", "(I)Z"⟩
abbrev cX2_slotOf : ByteArray := prog_1_method_23_code
def yX2_slotOf : MethodName := ⟨RX2, "slotOf", "(II)I"⟩
abbrev cX2_relationOf : ByteArray := prog_1_method_24_code
def yX2_relationOf : MethodName := ⟨RX2, "relationOf", "(IIII)I"⟩
abbrev cX2_forwardRelation : ByteArray := prog_1_method_25_code
def yX2_forwardRelation : MethodName := ⟨RX2, "forwardRelation", "(IIII)I"⟩
def RX3 : String := "TwoTimesTableModel"
def TX3 : u_T := fun k => match k with
  | 0 => ("TwoTimesTableModel", "clock", "I", false)
  | 1 => ("TwoTimesTableModel", "there", "[Z", true)
  | 2 => ("TwoTimesTableModel", "values", "[I", true)
  | 3 => ("TwoTimesTableModel", "keptThere", "[Z", true)
  | 4 => ("TwoTimesTableModel", "keptValues", "[I", true)
  | 5 => ("TwoTimesTableModel", "waits", "I", false)
  | 6 => ("TwoTimesTableModel", "waiting", "[I", true)
  | 7 => ("TwoTimesTableModel", "failed", "I", false)
  | 8 => ("TwoTimesTableModel", "thrown", "I", false)
  | _ => ("TwoTimesTableModel", "changed", "I", false)
def tyX3 : Nat → FieldType := fun k => match k with
  | 0 => .int
  | 1 => .array .boolean
  | 2 => .array .int
  | 3 => .array .boolean
  | 4 => .array .int
  | 5 => .int
  | 6 => .array .int
  | 7 => .int
  | 8 => .int
  | _ => .int
abbrev wsX30 : List Cond := u_ws RX3 TX3 10
theorem nmX3 : ∀ a, a < 10 → ∀ b, b < 10 → a ≠ b → (TX3 a).2.1 ≠ (TX3 b).2.1 := by decide +kernel
theorem tyX3_ok : ∀ k, k < 10 → parseFieldDescriptor (TX3 k).2.2.1 = some (tyX3 k) := by decide +kernel
abbrev cX3_init : ByteArray := prog_5_method_1_code
def yX3_init : MethodName := ⟨RX3, "<init>", "()V"⟩
abbrev cX3_thrown : ByteArray := prog_5_method_2_code
def yX3_thrown : MethodName := ⟨RX3, "thrown", "()I"⟩
abbrev cX3_fail : ByteArray := prog_5_method_3_code
def yX3_fail : MethodName := ⟨RX3, "fail", "(I)I"⟩
abbrev cX3_isKey : ByteArray := prog_5_method_4_code
def yX3_isKey : MethodName := ⟨RX3, "isKey", "(I)Z"⟩
abbrev cX3_isPeriod : ByteArray := prog_5_method_5_code
def yX3_isPeriod : MethodName := ⟨RX3, "isPeriod", "(II)Z"⟩
abbrev cX3_isTime : ByteArray := prog_5_method_6_code
def yX3_isTime : MethodName := ⟨RX3, "isTime", "(I)Z"⟩
abbrev cX3_place : ByteArray := prog_5_method_7_code
def yX3_place : MethodName := ⟨RX3, "place", "(III)I"⟩
abbrev cX3_tick : ByteArray := prog_5_method_8_code
def yX3_tick : MethodName := ⟨RX3, "tick", "()I"⟩
abbrev cX3_clock : ByteArray := prog_5_method_9_code
def yX3_clock : MethodName := ⟨RX3, "clock", "()I"⟩
abbrev cX3_alike : ByteArray := prog_5_method_10_code
def yX3_alike : MethodName := ⟨RX3, "alike", "(IIII)Z"⟩
abbrev cX3_begins : ByteArray := prog_5_method_11_code
def yX3_begins : MethodName := ⟨RX3, "begins", "(III)Z"⟩
abbrev cX3_endOf : ByteArray := prog_5_method_12_code
def yX3_endOf : MethodName := ⟨RX3, "endOf", "(III)I"⟩
abbrev cX3_isRun : ByteArray := prog_5_method_13_code
def yX3_isRun : MethodName := ⟨RX3, "isRun", "(IIIII)Z"⟩
abbrev cX3_isRow : ByteArray := prog_5_method_14_code
def yX3_isRow : MethodName := ⟨RX3, "isRow", "(III)Z"⟩
abbrev cX3_countRows : ByteArray := prog_5_method_15_code
def yX3_countRows : MethodName := ⟨RX3, "countRows", "()I"⟩
abbrev cX3_keep : ByteArray := prog_5_method_16_code
def yX3_keep : MethodName := ⟨RX3, "keep", "()V"⟩
abbrev cX3_goBack : ByteArray := prog_5_method_17_code
def yX3_goBack : MethodName := ⟨RX3, "goBack", "()V"⟩
abbrev cX3_heldIn : ByteArray := prog_5_method_18_code
def yX3_heldIn : MethodName := ⟨RX3, "heldIn", "(III)I"⟩
abbrev cX3_change : ByteArray := prog_5_method_19_code
def yX3_change : MethodName := ⟨RX3, "change", "(III)V"⟩
abbrev cX3_perform : ByteArray := prog_5_method_20_code
def yX3_perform : MethodName := ⟨RX3, "perform", "(IIIII)I"⟩
abbrev cX3_state : ByteArray := prog_5_method_21_code
def yX3_state : MethodName := ⟨RX3, "state", "(IIIII)I"⟩
abbrev cX3_queue : ByteArray := prog_5_method_22_code
def yX3_queue : MethodName := ⟨RX3, "queue", "(IIIII)Z"⟩
abbrev cX3_commit : ByteArray := prog_5_method_23_code
def yX3_commit : MethodName := ⟨RX3, "commit", "()I"⟩
abbrev cX3_failed : ByteArray := prog_5_method_24_code
def yX3_failed : MethodName := ⟨RX3, "failed", "()I"⟩
abbrev cX3_isDay : ByteArray := prog_5_method_25_code
def yX3_isDay : MethodName := ⟨RX3, "isDay", "(I)Z"⟩
abbrev cX3_value : ByteArray := prog_5_method_26_code
def yX3_value : MethodName := ⟨RX3, "value", "(III)I"⟩
abbrev cX3_has : ByteArray := prog_5_method_27_code
def yX3_has : MethodName := ⟨RX3, "has", "(III)Z"⟩
abbrev cX3_sum : ByteArray := prog_5_method_28_code
def yX3_sum : MethodName := ⟨RX3, "sum", "(IIII)J"⟩
abbrev cX3_runs : ByteArray := prog_5_method_29_code
def yX3_runs : MethodName := ⟨RX3, "runs", "(II)I"⟩
abbrev cX3_run : ByteArray := prog_5_method_30_code
def yX3_run : MethodName := ⟨RX3, "run", "(IIII)I"⟩
abbrev cX3_rows : ByteArray := prog_5_method_31_code
def yX3_rows : MethodName := ⟨RX3, "rows", "()I"⟩
abbrev cX3_endTime : ByteArray := prog_5_method_32_code
def yX3_endTime : MethodName := ⟨RX3, "endTime", "(III)I"⟩
abbrev cX3_row : ByteArray := prog_5_method_33_code
def yX3_row : MethodName := ⟨RX3, "row", "(II)I"⟩
abbrev cX3_changes : ByteArray := prog_5_method_34_code
def yX3_changes : MethodName := ⟨RX3, "changes", "(II)I"⟩
abbrev cX3_early : ByteArray := prog_5_method_35_code
def yX3_early : MethodName := ⟨RX3, "early", "(IIII)I"⟩
abbrev cX3_lies : ByteArray := prog_5_method_36_code
def yX3_lies : MethodName := ⟨RX3, "lies", "(IIII)I"⟩
abbrev cX3_relation : ByteArray := prog_5_method_37_code
def yX3_relation : MethodName := ⟨RX3, "relation", "(IIII)I"⟩
abbrev cX3_join : ByteArray := prog_5_method_38_code
def yX3_join : MethodName := ⟨RX3, "join", "(IIII)I"⟩
def RJ10 : String := "java/lang/System"
def TJ10 : u_T := fun k => match k with
  | _ => ("", "", "", false)
def tyJ10 : Nat → FieldType := fun k => match k with
  | _ => .int
abbrev wsJ100 : List Cond := u_ws RJ10 TJ10 0
theorem nmJ10 : ∀ a, a < 0 → ∀ b, b < 0 → a ≠ b → (TJ10 a).2.1 ≠ (TJ10 b).2.1 := by decide +kernel
theorem tyJ10_ok : ∀ k, k < 0 → parseFieldDescriptor (TJ10 k).2.2.1 = some (tyJ10 k) := by decide +kernel
def RL : String := "TwoTimesTableLaw"
abbrev cL_tick : ByteArray := method_3_code
def yL_tick : MethodName := ⟨RL, "tick", "(LTwoTimesTable;[J)I"⟩
abbrev cL_state : ByteArray := method_4_code
def yL_state : MethodName := ⟨RL, "state", "(LTwoTimesTable;IIIII[J)I"⟩
abbrev cL_commit : ByteArray := method_5_code
def yL_commit : MethodName := ⟨RL, "commit", "(LTwoTimesTable;[J)I"⟩
abbrev cL_value : ByteArray := method_6_code
def yL_value : MethodName := ⟨RL, "value", "(LTwoTimesTable;III[J)I"⟩
abbrev cL_sum : ByteArray := method_7_code
def yL_sum : MethodName := ⟨RL, "sum", "(LTwoTimesTable;IIII[J)I"⟩
abbrev cL_runs : ByteArray := method_8_code
def yL_runs : MethodName := ⟨RL, "runs", "(LTwoTimesTable;II[J)I"⟩
abbrev cL_run : ByteArray := method_9_code
def yL_run : MethodName := ⟨RL, "run", "(LTwoTimesTable;IIII[J)I"⟩
abbrev cL_row : ByteArray := method_10_code
def yL_row : MethodName := ⟨RL, "row", "(LTwoTimesTable;II[J)I"⟩
abbrev cL_changes : ByteArray := method_11_code
def yL_changes : MethodName := ⟨RL, "changes", "(LTwoTimesTable;II[J)I"⟩
abbrev cL_relation : ByteArray := method_12_code
def yL_relation : MethodName := ⟨RL, "relation", "(LTwoTimesTable;IIII[J)I"⟩
abbrev cL_join : ByteArray := method_13_code
def yL_join : MethodName := ⟨RL, "join", "(LTwoTimesTable;IIII[J)I"⟩
abbrev cL_law : ByteArray := code
def yL_law : MethodName := ⟨RL, "law", "([I)Z"⟩
abbrev vwCl : List vw_C := [(RX0, TX0, 4), (RX1, TX1, 2), (RX2, TX2, 3), (RX3, TX3, 10)]
end
section
/-- the words that stay as the machine goes on -/
def WT : List Cond := lw_tbl.filter goodWord
theorem wt_1 {i : Nat} {w : Cond} (h : tables_1_1[i]? = some w) (g : goodWord w = true) : w ∈ WT := List.mem_filter.mpr ⟨List.mem_append_right _ (List.mem_append_left _ (List.mem_of_getElem? h)), g⟩
theorem wt_2 {i : Nat} {w : Cond} (h : tables_1_2[i]? = some w) (g : goodWord w = true) : w ∈ WT := List.mem_filter.mpr ⟨List.mem_append_right _ (List.mem_append_right _ (List.mem_append_left _ (List.mem_of_getElem? h))), g⟩
theorem wt_3 {i : Nat} {w : Cond} (h : tables_1_3[i]? = some w) (g : goodWord w = true) : w ∈ WT := List.mem_filter.mpr ⟨List.mem_append_right _ (List.mem_append_right _ (List.mem_append_right _ (List.mem_of_getElem? h))), g⟩
theorem wn_1 {i : Nat} {w : Cond} (h : tables_1_1[i]? = some w) : w ∈ lw_tbl := List.mem_append_right _ (List.mem_append_left _ (List.mem_of_getElem? h))
theorem wn_2 {i : Nat} {w : Cond} (h : tables_1_2[i]? = some w) : w ∈ lw_tbl := List.mem_append_right _ (List.mem_append_right _ (List.mem_append_left _ (List.mem_of_getElem? h)))
theorem wn_3 {i : Nat} {w : Cond} (h : tables_1_3[i]? = some w) : w ∈ lw_tbl := List.mem_append_right _ (List.mem_append_right _ (List.mem_append_right _ (List.mem_of_getElem? h)))
theorem wt_s {i : Nat} {w : Cond} (h : (k2_sels lw_privs)[i]? = some w) (g : goodWord w = true) : w ∈ WT := List.mem_filter.mpr ⟨List.mem_append_left _ (List.mem_of_getElem? h), g⟩
theorem wt_in {w : Cond} (h : w ∈ WT) : w ∈ lw_tbl := (List.mem_filter.mp h).1
theorem wt_good : ∀ w ∈ WT, (w.onTables && w.keeps) = true ∨ ∃ ty, w = .arrayClass ty := fun w h => good_of_word (List.mem_filter.mp h).2

theorem k0 : (Jvm.Cond.initialized "TwoTimesTableLaw") ∈ WT := wt_1 (i := 0) rfl rfl
theorem k1 : (Jvm.Cond.initialized "TwoTimesTable") ∈ WT := wt_1 (i := 1) rfl rfl
theorem k2 : (Jvm.Cond.initialized "TwoTimesTable$States") ∈ WT := wt_1 (i := 2) rfl rfl
theorem k3 : (Jvm.Cond.initialized "TwoTimesTable$Waiting") ∈ WT := wt_1 (i := 3) rfl rfl
theorem k4 : (Jvm.Cond.initialized "TwoTimesTableModel") ∈ WT := wt_1 (i := 4) rfl rfl
theorem k5 : (Jvm.Cond.initialized "java/lang/Throwable") ∈ WT := wt_1 (i := 5) rfl rfl
theorem k6 : (Jvm.Cond.initialized "java/lang/Exception") ∈ WT := wt_1 (i := 6) rfl rfl
theorem k7 : (Jvm.Cond.initialized "java/lang/RuntimeException") ∈ WT := wt_1 (i := 7) rfl rfl
theorem k8 : (Jvm.Cond.initialized "java/lang/IllegalStateException") ∈ WT := wt_1 (i := 8) rfl rfl
theorem k9 : (Jvm.Cond.initialized "java/lang/System") ∈ WT := wt_1 (i := 9) rfl rfl
theorem k10 : (Jvm.Cond.initialized "java/lang/IllegalArgumentException") ∈ WT := wt_1 (i := 10) rfl rfl
theorem k11 : (Jvm.Cond.initialized "java/util/NoSuchElementException") ∈ WT := wt_1 (i := 11) rfl rfl
theorem k12 : (Jvm.Cond.initialized "java/lang/IndexOutOfBoundsException") ∈ WT := wt_1 (i := 12) rfl rfl
theorem k13 : (Jvm.Cond.classLink "TwoTimesTableLaw" (8 : Nat) "TwoTimesTable") ∈ WT := wt_1 (i := 13) rfl rfl
theorem k14 : (Jvm.Cond.instantiable "TwoTimesTable" (3 : Nat)) ∈ WT := wt_1 (i := 14) rfl rfl
theorem k15 : (Jvm.Cond.methodLink "TwoTimesTableLaw" (56 : Nat) ({ cls := "TwoTimesTable", name := "<init>", desc := "()V" } : Jvm.MethodName)) ∈ WT := wt_1 (i := 15) rfl rfl
theorem k16 : (Jvm.Cond.instanceMethod ({ cls := "TwoTimesTable", name := "<init>", desc := "()V" } : Jvm.MethodName)) ∈ WT := wt_1 (i := 16) rfl rfl
theorem k17 : (Jvm.Cond.code ({ cls := "TwoTimesTable", name := "<init>", desc := "()V" } : Jvm.MethodName) prog_1_method_1_code (1 : Nat) (Option.none : Option Jvm.ClassFile.FieldType)) ∈ WT := wt_1 (i := 17) rfl rfl
theorem k18 : (Jvm.Cond.methodLink "TwoTimesTable" (1 : Nat) ({ cls := "java/lang/Object", name := "<init>", desc := "()V" } : Jvm.MethodName)) ∈ WT := wt_1 (i := 18) rfl rfl
theorem k19 : (Jvm.Cond.instanceMethod ({ cls := "java/lang/Object", name := "<init>", desc := "()V" } : Jvm.MethodName)) ∈ WT := wt_1 (i := 19) rfl rfl
theorem k20 : (Jvm.Cond.code ({ cls := "java/lang/Object", name := "<init>", desc := "()V" } : Jvm.MethodName) object_method_1_code (1 : Nat) (Option.none : Option Jvm.ClassFile.FieldType)) ∈ WT := wt_1 (i := 20) rfl rfl
theorem k21 : (Jvm.Cond.classLink "TwoTimesTable" (7 : Nat) "TwoTimesTable$States") ∈ WT := wt_1 (i := 21) rfl rfl
theorem k22 : (Jvm.Cond.instantiable "TwoTimesTable$States" (4 : Nat)) ∈ WT := wt_1 (i := 22) rfl rfl
theorem k23 : (Jvm.Cond.methodLink "TwoTimesTable" (9 : Nat) ({ cls := "TwoTimesTable$States", name := "<init>", desc := "()V" } : Jvm.MethodName)) ∈ WT := wt_1 (i := 23) rfl rfl
theorem k24 : (Jvm.Cond.instanceMethod ({ cls := "TwoTimesTable$States", name := "<init>", desc := "()V" } : Jvm.MethodName)) ∈ WT := wt_1 (i := 24) rfl rfl
theorem k25 : (Jvm.Cond.code ({ cls := "TwoTimesTable$States", name := "<init>", desc := "()V" } : Jvm.MethodName) prog_2_method_1_code (1 : Nat) (Option.none : Option Jvm.ClassFile.FieldType)) ∈ WT := wt_1 (i := 25) rfl rfl
theorem k26 : (Jvm.Cond.methodLink "TwoTimesTable$States" (3 : Nat) ({ cls := "java/lang/Object", name := "<init>", desc := "()V" } : Jvm.MethodName)) ∈ WT := wt_1 (i := 26) rfl rfl
theorem k27 : (Jvm.Cond.fieldLink "TwoTimesTable$States" (9 : Nat) "TwoTimesTable$States" "values" "[I") ∈ WT := wt_1 (i := 27) rfl rfl
theorem k28 : (Jvm.Cond.fieldLink "TwoTimesTable$States" (15 : Nat) "TwoTimesTable$States" "filled" "[I") ∈ WT := wt_1 (i := 28) rfl rfl
theorem k29 : (Jvm.Cond.fieldLink "TwoTimesTable$States" (18 : Nat) "TwoTimesTable$States" "rowsBegun" "[I") ∈ WT := wt_1 (i := 29) rfl rfl
theorem k30 : (Jvm.Cond.fieldLink "TwoTimesTable$States" (21 : Nat) "TwoTimesTable$States" "present" "I") ∈ WT := wt_1 (i := 30) rfl rfl
theorem k31 : (Jvm.Cond.fieldLinkNest "TwoTimesTable" (27 : Nat) "TwoTimesTable$States" "present" "I" "TwoTimesTable") ∈ lw_tbl := wn_1 (i := 31) rfl
theorem k32 : (Jvm.Cond.laysFinal "TwoTimesTable$States" "TwoTimesTable$States" "values" "[I") ∈ WT := wt_1 (i := 32) rfl rfl
theorem k33 : (Jvm.Cond.soleField "TwoTimesTable$States" "values") ∈ WT := wt_1 (i := 33) rfl rfl
theorem k34 : (Jvm.Cond.laysFinal "TwoTimesTable$States" "TwoTimesTable$States" "filled" "[I") ∈ WT := wt_1 (i := 34) rfl rfl
theorem k35 : (Jvm.Cond.soleField "TwoTimesTable$States" "filled") ∈ WT := wt_1 (i := 35) rfl rfl
theorem k36 : (Jvm.Cond.laysFinal "TwoTimesTable$States" "TwoTimesTable$States" "rowsBegun" "[I") ∈ WT := wt_1 (i := 36) rfl rfl
theorem k37 : (Jvm.Cond.soleField "TwoTimesTable$States" "rowsBegun") ∈ WT := wt_1 (i := 37) rfl rfl
theorem k38 : (Jvm.Cond.lays "TwoTimesTable$States" "TwoTimesTable$States" "present" "I") ∈ WT := wt_1 (i := 38) rfl rfl
theorem k39 : (Jvm.Cond.soleField "TwoTimesTable$States" "present") ∈ WT := wt_1 (i := 39) rfl rfl
theorem k40 : (Jvm.Cond.superclass "TwoTimesTable$States" "java/lang/Object") ∈ WT := wt_1 (i := 40) rfl rfl
theorem k41 : (Jvm.Cond.arrayClass Jvm.ClassFile.FieldType.int) ∈ WT := wt_1 (i := 41) rfl rfl
theorem k42 : (Jvm.Cond.classLink "TwoTimesTable" (16 : Nat) "TwoTimesTable$Waiting") ∈ WT := wt_1 (i := 42) rfl rfl
theorem k43 : (Jvm.Cond.instantiable "TwoTimesTable$Waiting" (2 : Nat)) ∈ WT := wt_1 (i := 43) rfl rfl
theorem k44 : (Jvm.Cond.methodLink "TwoTimesTable" (18 : Nat) ({ cls := "TwoTimesTable$Waiting", name := "<init>", desc := "()V" } : Jvm.MethodName)) ∈ WT := wt_1 (i := 44) rfl rfl
theorem k45 : (Jvm.Cond.instanceMethod ({ cls := "TwoTimesTable$Waiting", name := "<init>", desc := "()V" } : Jvm.MethodName)) ∈ WT := wt_1 (i := 45) rfl rfl
theorem k46 : (Jvm.Cond.code ({ cls := "TwoTimesTable$Waiting", name := "<init>", desc := "()V" } : Jvm.MethodName) prog_3_method_1_code (1 : Nat) (Option.none : Option Jvm.ClassFile.FieldType)) ∈ WT := wt_1 (i := 46) rfl rfl
theorem k47 : (Jvm.Cond.methodLink "TwoTimesTable$Waiting" (3 : Nat) ({ cls := "java/lang/Object", name := "<init>", desc := "()V" } : Jvm.MethodName)) ∈ WT := wt_1 (i := 47) rfl rfl
theorem k48 : (Jvm.Cond.fieldLink "TwoTimesTable$Waiting" (11 : Nat) "TwoTimesTable$Waiting" "words" "[I") ∈ WT := wt_1 (i := 48) rfl rfl
theorem k49 : (Jvm.Cond.fieldLink "TwoTimesTable$Waiting" (15 : Nat) "TwoTimesTable$Waiting" "count" "I") ∈ WT := wt_1 (i := 49) rfl rfl
theorem k50 : (Jvm.Cond.fieldLinkNest "TwoTimesTable" (54 : Nat) "TwoTimesTable$Waiting" "count" "I" "TwoTimesTable") ∈ lw_tbl := wn_1 (i := 50) rfl
theorem k51 : (Jvm.Cond.laysFinal "TwoTimesTable$Waiting" "TwoTimesTable$Waiting" "words" "[I") ∈ WT := wt_1 (i := 51) rfl rfl
theorem k52 : (Jvm.Cond.soleField "TwoTimesTable$Waiting" "words") ∈ WT := wt_1 (i := 52) rfl rfl
theorem k53 : (Jvm.Cond.lays "TwoTimesTable$Waiting" "TwoTimesTable$Waiting" "count" "I") ∈ WT := wt_1 (i := 53) rfl rfl
theorem k54 : (Jvm.Cond.soleField "TwoTimesTable$Waiting" "count") ∈ WT := wt_1 (i := 54) rfl rfl
theorem k55 : (Jvm.Cond.superclass "TwoTimesTable$Waiting" "java/lang/Object") ∈ WT := wt_1 (i := 55) rfl rfl
theorem k56 : (Jvm.Cond.fieldLink "TwoTimesTable" (10 : Nat) "TwoTimesTable" "states" "LTwoTimesTable$States;") ∈ WT := wt_1 (i := 56) rfl rfl
theorem k57 : (Jvm.Cond.fieldLink "TwoTimesTable" (19 : Nat) "TwoTimesTable" "waiting" "LTwoTimesTable$Waiting;") ∈ WT := wt_1 (i := 57) rfl rfl
theorem k58 : (Jvm.Cond.fieldLink "TwoTimesTable" (23 : Nat) "TwoTimesTable" "failedNumber" "I") ∈ WT := wt_1 (i := 58) rfl rfl
theorem k59 : (Jvm.Cond.laysFinal "TwoTimesTable" "TwoTimesTable" "states" "LTwoTimesTable$States;") ∈ WT := wt_1 (i := 59) rfl rfl
theorem k60 : (Jvm.Cond.soleField "TwoTimesTable" "states") ∈ WT := wt_1 (i := 60) rfl rfl
theorem k61 : (Jvm.Cond.laysFinal "TwoTimesTable" "TwoTimesTable" "waiting" "LTwoTimesTable$Waiting;") ∈ WT := wt_1 (i := 61) rfl rfl
theorem k62 : (Jvm.Cond.soleField "TwoTimesTable" "waiting") ∈ WT := wt_1 (i := 62) rfl rfl
theorem k63 : (Jvm.Cond.lays "TwoTimesTable" "TwoTimesTable" "failedNumber" "I") ∈ WT := wt_1 (i := 63) rfl rfl
theorem k64 : (Jvm.Cond.soleField "TwoTimesTable" "failedNumber") ∈ WT := wt_1 (i := 64) rfl rfl
theorem k65 : (Jvm.Cond.superclass "TwoTimesTable" "java/lang/Object") ∈ WT := wt_1 (i := 65) rfl rfl
theorem k66 : (Jvm.Cond.methodLink "TwoTimesTableLaw" (69 : Nat) ({ cls := "TwoTimesTable", name := "clock", desc := "()I" } : Jvm.MethodName)) ∈ WT := wt_1 (i := 66) rfl rfl
theorem k67 : (Jvm.Cond.instanceMethod ({ cls := "TwoTimesTable", name := "clock", desc := "()I" } : Jvm.MethodName)) ∈ WT := wt_1 (i := 67) rfl rfl
theorem k68 : (Jvm.Cond.selects "TwoTimesTable" ({ cls := "TwoTimesTable", name := "clock", desc := "()I" } : Jvm.MethodName) ({ cls := "TwoTimesTable", name := "clock", desc := "()I" } : Jvm.MethodName)) ∈ WT := wt_1 (i := 68) rfl rfl
theorem k69 : (Jvm.Cond.code ({ cls := "TwoTimesTable", name := "clock", desc := "()I" } : Jvm.MethodName) prog_1_method_3_code (1 : Nat) (Option.some Jvm.ClassFile.FieldType.int)) ∈ WT := wt_1 (i := 69) rfl rfl
theorem k70 : (Jvm.Cond.methodLink "TwoTimesTableLaw" (77 : Nat) ({ cls := "TwoTimesTable", name := "queue", desc := "(IIIII)Z" } : Jvm.MethodName)) ∈ WT := wt_1 (i := 70) rfl rfl
theorem k71 : (Jvm.Cond.instanceMethod ({ cls := "TwoTimesTable", name := "queue", desc := "(IIIII)Z" } : Jvm.MethodName)) ∈ WT := wt_1 (i := 71) rfl rfl
theorem k72 : (Jvm.Cond.selects "TwoTimesTable" ({ cls := "TwoTimesTable", name := "queue", desc := "(IIIII)Z" } : Jvm.MethodName) ({ cls := "TwoTimesTable", name := "queue", desc := "(IIIII)Z" } : Jvm.MethodName)) ∈ WT := wt_1 (i := 72) rfl rfl
theorem k73 : (Jvm.Cond.code ({ cls := "TwoTimesTable", name := "queue", desc := "(IIIII)Z" } : Jvm.MethodName) prog_1_method_5_code (6 : Nat) (Option.some Jvm.ClassFile.FieldType.boolean)) ∈ WT := wt_1 (i := 73) rfl rfl
theorem k74 : (Jvm.Cond.methodLink "TwoTimesTable" (50 : Nat) ({ cls := "TwoTimesTable$Waiting", name := "append", desc := "(IIIII)Z" } : Jvm.MethodName)) ∈ WT := wt_1 (i := 74) rfl rfl
theorem k75 : (Jvm.Cond.instanceMethod ({ cls := "TwoTimesTable$Waiting", name := "append", desc := "(IIIII)Z" } : Jvm.MethodName)) ∈ WT := wt_1 (i := 75) rfl rfl
theorem k76 : (Jvm.Cond.selects "TwoTimesTable$Waiting" ({ cls := "TwoTimesTable$Waiting", name := "append", desc := "(IIIII)Z" } : Jvm.MethodName) ({ cls := "TwoTimesTable$Waiting", name := "append", desc := "(IIIII)Z" } : Jvm.MethodName)) ∈ WT := wt_1 (i := 76) rfl rfl
theorem k77 : (Jvm.Cond.code ({ cls := "TwoTimesTable$Waiting", name := "append", desc := "(IIIII)Z" } : Jvm.MethodName) prog_3_method_2_code (7 : Nat) (Option.some Jvm.ClassFile.FieldType.boolean)) ∈ WT := wt_1 (i := 77) rfl rfl
theorem k78 : (Jvm.Cond.methodLink "TwoTimesTableLaw" (85 : Nat) ({ cls := "TwoTimesTable", name := "failed", desc := "()I" } : Jvm.MethodName)) ∈ WT := wt_1 (i := 78) rfl rfl
theorem k79 : (Jvm.Cond.instanceMethod ({ cls := "TwoTimesTable", name := "failed", desc := "()I" } : Jvm.MethodName)) ∈ WT := wt_1 (i := 79) rfl rfl
theorem k80 : (Jvm.Cond.selects "TwoTimesTable" ({ cls := "TwoTimesTable", name := "failed", desc := "()I" } : Jvm.MethodName) ({ cls := "TwoTimesTable", name := "failed", desc := "()I" } : Jvm.MethodName)) ∈ WT := wt_1 (i := 80) rfl rfl
theorem k81 : (Jvm.Cond.code ({ cls := "TwoTimesTable", name := "failed", desc := "()I" } : Jvm.MethodName) prog_1_method_7_code (1 : Nat) (Option.some Jvm.ClassFile.FieldType.int)) ∈ WT := wt_1 (i := 81) rfl rfl
theorem k82 : (Jvm.Cond.methodLink "TwoTimesTableLaw" (93 : Nat) ({ cls := "TwoTimesTable", name := "has", desc := "(III)Z" } : Jvm.MethodName)) ∈ WT := wt_1 (i := 82) rfl rfl
theorem k83 : (Jvm.Cond.instanceMethod ({ cls := "TwoTimesTable", name := "has", desc := "(III)Z" } : Jvm.MethodName)) ∈ WT := wt_1 (i := 83) rfl rfl
theorem k84 : (Jvm.Cond.selects "TwoTimesTable" ({ cls := "TwoTimesTable", name := "has", desc := "(III)Z" } : Jvm.MethodName) ({ cls := "TwoTimesTable", name := "has", desc := "(III)Z" } : Jvm.MethodName)) ∈ WT := wt_1 (i := 84) rfl rfl
theorem k85 : (Jvm.Cond.code ({ cls := "TwoTimesTable", name := "has", desc := "(III)Z" } : Jvm.MethodName) prog_1_method_9_code (4 : Nat) (Option.some Jvm.ClassFile.FieldType.boolean)) ∈ WT := wt_1 (i := 85) rfl rfl
theorem k86 : (Jvm.Cond.methodLink "TwoTimesTable" (61 : Nat) ({ cls := "TwoTimesTable", name := "isKey", desc := "(I)Z" } : Jvm.MethodName)) ∈ WT := wt_1 (i := 86) rfl rfl
theorem k87 : (Jvm.Cond.static ({ cls := "TwoTimesTable", name := "isKey", desc := "(I)Z" } : Jvm.MethodName)) ∈ WT := wt_1 (i := 87) rfl rfl
theorem k88 : (Jvm.Cond.code ({ cls := "TwoTimesTable", name := "isKey", desc := "(I)Z" } : Jvm.MethodName) prog_1_method_19_code (1 : Nat) (Option.some Jvm.ClassFile.FieldType.boolean)) ∈ WT := wt_1 (i := 88) rfl rfl
theorem k89 : (Jvm.Cond.methodLink "TwoTimesTable" (65 : Nat) ({ cls := "TwoTimesTable", name := "isDay", desc := "(I)Z" } : Jvm.MethodName)) ∈ WT := wt_1 (i := 89) rfl rfl
theorem k90 : (Jvm.Cond.static ({ cls := "TwoTimesTable", name := "isDay", desc := "(I)Z" } : Jvm.MethodName)) ∈ WT := wt_1 (i := 90) rfl rfl
theorem k91 : (Jvm.Cond.code ({ cls := "TwoTimesTable", name := "isDay", desc := "(I)Z" } : Jvm.MethodName) prog_1_method_20_code (1 : Nat) (Option.some Jvm.ClassFile.FieldType.boolean)) ∈ WT := wt_1 (i := 91) rfl rfl
theorem k92 : (Jvm.Cond.methodLink "TwoTimesTable" (68 : Nat) ({ cls := "TwoTimesTable", name := "isTime", desc := "(I)Z" } : Jvm.MethodName)) ∈ WT := wt_1 (i := 92) rfl rfl
theorem k93 : (Jvm.Cond.privateMethod ({ cls := "TwoTimesTable", name := "isTime", desc := "(I)Z" } : Jvm.MethodName)) ∈ lw_tbl := wn_1 (i := 93) rfl
theorem k94 : (Jvm.Cond.instanceMethod ({ cls := "TwoTimesTable", name := "isTime", desc := "(I)Z" } : Jvm.MethodName)) ∈ WT := wt_1 (i := 94) rfl rfl
theorem k95 : (Jvm.Cond.code ({ cls := "TwoTimesTable", name := "isTime", desc := "(I)Z" } : Jvm.MethodName) prog_1_method_22_code (2 : Nat) (Option.some Jvm.ClassFile.FieldType.boolean)) ∈ WT := wt_1 (i := 95) rfl rfl
theorem k96 : (Jvm.Cond.methodLink "TwoTimesTable" (74 : Nat) ({ cls := "TwoTimesTable", name := "slotOf", desc := "(II)I" } : Jvm.MethodName)) ∈ WT := wt_1 (i := 96) rfl rfl
theorem k97 : (Jvm.Cond.static ({ cls := "TwoTimesTable", name := "slotOf", desc := "(II)I" } : Jvm.MethodName)) ∈ WT := wt_1 (i := 97) rfl rfl
theorem k98 : (Jvm.Cond.code ({ cls := "TwoTimesTable", name := "slotOf", desc := "(II)I" } : Jvm.MethodName) prog_1_method_23_code (2 : Nat) (Option.some Jvm.ClassFile.FieldType.int)) ∈ WT := wt_1 (i := 98) rfl rfl
theorem k99 : (Jvm.Cond.methodLink "TwoTimesTable" (77 : Nat) ({ cls := "TwoTimesTable$States", name := "isFilled", desc := "(II)Z" } : Jvm.MethodName)) ∈ WT := wt_1 (i := 99) rfl rfl
theorem k100 : (Jvm.Cond.instanceMethod ({ cls := "TwoTimesTable$States", name := "isFilled", desc := "(II)Z" } : Jvm.MethodName)) ∈ WT := wt_1 (i := 100) rfl rfl
theorem k101 : (Jvm.Cond.selects "TwoTimesTable$States" ({ cls := "TwoTimesTable$States", name := "isFilled", desc := "(II)Z" } : Jvm.MethodName) ({ cls := "TwoTimesTable$States", name := "isFilled", desc := "(II)Z" } : Jvm.MethodName)) ∈ WT := wt_1 (i := 101) rfl rfl
theorem k102 : (Jvm.Cond.code ({ cls := "TwoTimesTable$States", name := "isFilled", desc := "(II)Z" } : Jvm.MethodName) prog_2_method_9_code (3 : Nat) (Option.some Jvm.ClassFile.FieldType.boolean)) ∈ WT := wt_1 (i := 102) rfl rfl
theorem k103 : (Jvm.Cond.methodLink "TwoTimesTableLaw" (109 : Nat) ({ cls := "TwoTimesTable", name := "rows", desc := "()I" } : Jvm.MethodName)) ∈ WT := wt_1 (i := 103) rfl rfl
theorem k104 : (Jvm.Cond.instanceMethod ({ cls := "TwoTimesTable", name := "rows", desc := "()I" } : Jvm.MethodName)) ∈ WT := wt_1 (i := 104) rfl rfl
theorem k105 : (Jvm.Cond.selects "TwoTimesTable" ({ cls := "TwoTimesTable", name := "rows", desc := "()I" } : Jvm.MethodName) ({ cls := "TwoTimesTable", name := "rows", desc := "()I" } : Jvm.MethodName)) ∈ WT := wt_1 (i := 105) rfl rfl
theorem k106 : (Jvm.Cond.code ({ cls := "TwoTimesTable", name := "rows", desc := "()I" } : Jvm.MethodName) prog_1_method_13_code (1 : Nat) (Option.some Jvm.ClassFile.FieldType.int)) ∈ WT := wt_1 (i := 106) rfl rfl
theorem k107 : (Jvm.Cond.methodLink "TwoTimesTable" (103 : Nat) ({ cls := "TwoTimesTable$States", name := "countRows", desc := "()I" } : Jvm.MethodName)) ∈ WT := wt_1 (i := 107) rfl rfl
theorem k108 : (Jvm.Cond.instanceMethod ({ cls := "TwoTimesTable$States", name := "countRows", desc := "()I" } : Jvm.MethodName)) ∈ WT := wt_1 (i := 108) rfl rfl
theorem k109 : (Jvm.Cond.selects "TwoTimesTable$States" ({ cls := "TwoTimesTable$States", name := "countRows", desc := "()I" } : Jvm.MethodName) ({ cls := "TwoTimesTable$States", name := "countRows", desc := "()I" } : Jvm.MethodName)) ∈ WT := wt_1 (i := 109) rfl rfl
theorem k110 : (Jvm.Cond.code ({ cls := "TwoTimesTable$States", name := "countRows", desc := "()I" } : Jvm.MethodName) prog_2_method_18_code (3 : Nat) (Option.some Jvm.ClassFile.FieldType.int)) ∈ WT := wt_1 (i := 110) rfl rfl
theorem k111 : (Jvm.Cond.methodLink "TwoTimesTableLaw" (60 : Nat) ({ cls := "TwoTimesTableLaw", name := "tick", desc := "(LTwoTimesTable;[J)I" } : Jvm.MethodName)) ∈ WT := wt_1 (i := 111) rfl rfl
theorem k112 : (Jvm.Cond.static ({ cls := "TwoTimesTableLaw", name := "tick", desc := "(LTwoTimesTable;[J)I" } : Jvm.MethodName)) ∈ WT := wt_1 (i := 112) rfl rfl
theorem k113 : (Jvm.Cond.codeWith ({ cls := "TwoTimesTableLaw", name := "tick", desc := "(LTwoTimesTable;[J)I" } : Jvm.MethodName) method_3_code (3 : Nat) (Option.some Jvm.ClassFile.FieldType.int) [((0 : Nat), (8 : Nat), (11 : Nat), (13 : Nat))]) ∈ WT := wt_1 (i := 113) rfl rfl
theorem k114 : (Jvm.Cond.classLink "TwoTimesTableLaw" (13 : Nat) "java/lang/IllegalStateException") ∈ WT := wt_1 (i := 114) rfl rfl
theorem k115 : (Jvm.Cond.methodLink "TwoTimesTableLaw" (7 : Nat) ({ cls := "TwoTimesTable", name := "tick", desc := "()I" } : Jvm.MethodName)) ∈ WT := wt_1 (i := 115) rfl rfl
theorem k116 : (Jvm.Cond.instanceMethod ({ cls := "TwoTimesTable", name := "tick", desc := "()I" } : Jvm.MethodName)) ∈ WT := wt_1 (i := 116) rfl rfl
theorem k117 : (Jvm.Cond.selects "TwoTimesTable" ({ cls := "TwoTimesTable", name := "tick", desc := "()I" } : Jvm.MethodName) ({ cls := "TwoTimesTable", name := "tick", desc := "()I" } : Jvm.MethodName)) ∈ WT := wt_1 (i := 117) rfl rfl
theorem k118 : (Jvm.Cond.code ({ cls := "TwoTimesTable", name := "tick", desc := "()I" } : Jvm.MethodName) prog_1_method_2_code (1 : Nat) (Option.some Jvm.ClassFile.FieldType.int)) ∈ WT := wt_1 (i := 118) rfl rfl
theorem k119 : (Jvm.Cond.classLink "TwoTimesTable" (30 : Nat) "java/lang/IllegalStateException") ∈ WT := wt_1 (i := 119) rfl rfl
theorem k120 : (Jvm.Cond.instantiable "java/lang/IllegalStateException" (6 : Nat)) ∈ WT := wt_1 (i := 120) rfl rfl
theorem k121 : (Jvm.Cond.castable "java/lang/IllegalStateException" "java/lang/IllegalStateException") ∈ lw_tbl := wn_1 (i := 121) rfl
theorem k122 : (Jvm.Cond.declares ({ cls := "java/lang/RuntimeException", name := "<init>", desc := "()V" } : Jvm.MethodName)) ∈ lw_tbl := wn_1 (i := 122) rfl
theorem k123 : (Jvm.Cond.declares ({ cls := "java/lang/RuntimeException", name := "<init>", desc := "(Ljava/lang/String;)V" } : Jvm.MethodName)) ∈ lw_tbl := wn_1 (i := 123) rfl
theorem k124 : (Jvm.Cond.declares ({ cls := "java/lang/Exception", name := "<init>", desc := "()V" } : Jvm.MethodName)) ∈ lw_tbl := wn_1 (i := 124) rfl
theorem k125 : (Jvm.Cond.declares ({ cls := "java/lang/Exception", name := "<init>", desc := "(Ljava/lang/String;)V" } : Jvm.MethodName)) ∈ lw_tbl := wn_1 (i := 125) rfl
theorem k126 : (Jvm.Cond.declares ({ cls := "java/lang/Throwable", name := "<init>", desc := "()V" } : Jvm.MethodName)) ∈ lw_tbl := wn_1 (i := 126) rfl
theorem k127 : (Jvm.Cond.declares ({ cls := "java/lang/Throwable", name := "<init>", desc := "(Ljava/lang/String;)V" } : Jvm.MethodName)) ∈ lw_tbl := wn_1 (i := 127) rfl
theorem k128 : (Jvm.Cond.selects "java/lang/IllegalStateException" ({ cls := "java/lang/Throwable", name := "fillInStackTrace", desc := "(I)Ljava/lang/Throwable;" } : Jvm.MethodName) ({ cls := "java/lang/Throwable", name := "fillInStackTrace", desc := "(I)Ljava/lang/Throwable;" } : Jvm.MethodName)) ∈ WT := wt_1 (i := 128) rfl rfl
theorem k129 : (Jvm.Cond.selects "java/lang/IllegalStateException" ({ cls := "java/lang/Throwable", name := "fillInStackTrace", desc := "()Ljava/lang/Throwable;" } : Jvm.MethodName) ({ cls := "java/lang/Throwable", name := "fillInStackTrace", desc := "()Ljava/lang/Throwable;" } : Jvm.MethodName)) ∈ WT := wt_1 (i := 129) rfl rfl
theorem k130 : (Jvm.Cond.lays "java/lang/IllegalStateException" "java/lang/Throwable" "cause" "Ljava/lang/Throwable;") ∈ WT := wt_1 (i := 130) rfl rfl
theorem k131 : (Jvm.Cond.lays "java/lang/Throwable" "java/lang/Throwable" "cause" "Ljava/lang/Throwable;") ∈ WT := wt_1 (i := 131) rfl rfl
theorem k132 : (Jvm.Cond.lays "java/lang/IllegalStateException" "java/lang/Throwable" "stackTrace" "[Ljava/lang/StackTraceElement;") ∈ WT := wt_1 (i := 132) rfl rfl
theorem k133 : (Jvm.Cond.lays "java/lang/Throwable" "java/lang/Throwable" "stackTrace" "[Ljava/lang/StackTraceElement;") ∈ WT := wt_1 (i := 133) rfl rfl
theorem k134 : (Jvm.Cond.lays "java/lang/IllegalStateException" "java/lang/Throwable" "suppressedExceptions" "Ljava/util/List;") ∈ WT := wt_1 (i := 134) rfl rfl
theorem k135 : (Jvm.Cond.lays "java/lang/Throwable" "java/lang/Throwable" "suppressedExceptions" "Ljava/util/List;") ∈ WT := wt_1 (i := 135) rfl rfl
theorem k136 : (Jvm.Cond.lays "java/lang/IllegalStateException" "java/lang/Throwable" "detailMessage" "Ljava/lang/String;") ∈ WT := wt_1 (i := 136) rfl rfl
theorem k137 : (Jvm.Cond.lays "java/lang/Throwable" "java/lang/Throwable" "detailMessage" "Ljava/lang/String;") ∈ WT := wt_1 (i := 137) rfl rfl
theorem k138 : (Jvm.Cond.lays "java/lang/IllegalStateException" "java/lang/Throwable" "backtrace" "Ljava/lang/Object;") ∈ WT := wt_1 (i := 138) rfl rfl
theorem k139 : (Jvm.Cond.lays "java/lang/Throwable" "java/lang/Throwable" "backtrace" "Ljava/lang/Object;") ∈ WT := wt_1 (i := 139) rfl rfl
theorem k140 : (Jvm.Cond.fieldLink "java/lang/Throwable" (198 : Nat) "java/lang/Throwable" "backtrace" "Ljava/lang/Object;") ∈ WT := wt_1 (i := 140) rfl rfl
theorem k141 : (Jvm.Cond.superclass "java/lang/Throwable" "java/lang/Object") ∈ WT := wt_1 (i := 141) rfl rfl
theorem k142 : (Jvm.Cond.instanceMethod ({ cls := "java/lang/Throwable", name := "<init>", desc := "()V" } : Jvm.MethodName)) ∈ WT := wt_1 (i := 142) rfl rfl
theorem k143 : (Jvm.Cond.code ({ cls := "java/lang/Throwable", name := "<init>", desc := "()V" } : Jvm.MethodName) prog_12_method_1_code (1 : Nat) (Option.none : Option Jvm.ClassFile.FieldType)) ∈ WT := wt_1 (i := 143) rfl rfl
theorem k144 : (Jvm.Cond.methodLink "java/lang/Throwable" (1 : Nat) ({ cls := "java/lang/Object", name := "<init>", desc := "()V" } : Jvm.MethodName)) ∈ WT := wt_1 (i := 144) rfl rfl
theorem k145 : (Jvm.Cond.fieldLink "java/lang/Throwable" (13 : Nat) "java/lang/Throwable" "UNASSIGNED_STACK" "[Ljava/lang/StackTraceElement;") ∈ WT := wt_1 (i := 145) rfl rfl
theorem k146 : (Jvm.Cond.laysStatic "java/lang/Throwable" "UNASSIGNED_STACK" "[Ljava/lang/StackTraceElement;") ∈ lw_tbl := wn_1 (i := 146) rfl
theorem k147 : (Jvm.Cond.fieldLink "java/lang/Throwable" (20 : Nat) "java/lang/Throwable" "SUPPRESSED_SENTINEL" "Ljava/util/List;") ∈ WT := wt_1 (i := 147) rfl rfl
theorem k148 : (Jvm.Cond.laysStatic "java/lang/Throwable" "SUPPRESSED_SENTINEL" "Ljava/util/List;") ∈ lw_tbl := wn_1 (i := 148) rfl
theorem k149 : (Jvm.Cond.methodLink "java/lang/Throwable" (27 : Nat) ({ cls := "java/lang/Throwable", name := "fillInStackTrace", desc := "()Ljava/lang/Throwable;" } : Jvm.MethodName)) ∈ WT := wt_1 (i := 149) rfl rfl
theorem k150 : (Jvm.Cond.instanceMethod ({ cls := "java/lang/Throwable", name := "fillInStackTrace", desc := "()Ljava/lang/Throwable;" } : Jvm.MethodName)) ∈ WT := wt_1 (i := 150) rfl rfl
theorem k151 : (Jvm.Cond.sameMethod "java/lang/Throwable" "java/lang/Throwable" "fillInStackTrace" "()Ljava/lang/Throwable;") ∈ WT := wt_1 (i := 151) rfl rfl
theorem k152 : (Jvm.Cond.selects "java/lang/IllegalArgumentException" ({ cls := "java/lang/Throwable", name := "fillInStackTrace", desc := "()Ljava/lang/Throwable;" } : Jvm.MethodName) ({ cls := "java/lang/Throwable", name := "fillInStackTrace", desc := "()Ljava/lang/Throwable;" } : Jvm.MethodName)) ∈ WT := wt_1 (i := 152) rfl rfl
theorem k153 : (Jvm.Cond.selects "java/lang/IndexOutOfBoundsException" ({ cls := "java/lang/Throwable", name := "fillInStackTrace", desc := "()Ljava/lang/Throwable;" } : Jvm.MethodName) ({ cls := "java/lang/Throwable", name := "fillInStackTrace", desc := "()Ljava/lang/Throwable;" } : Jvm.MethodName)) ∈ WT := wt_1 (i := 153) rfl rfl
theorem k154 : (Jvm.Cond.selects "java/util/NoSuchElementException" ({ cls := "java/lang/Throwable", name := "fillInStackTrace", desc := "()Ljava/lang/Throwable;" } : Jvm.MethodName) ({ cls := "java/lang/Throwable", name := "fillInStackTrace", desc := "()Ljava/lang/Throwable;" } : Jvm.MethodName)) ∈ WT := wt_1 (i := 154) rfl rfl
theorem k155 : (Jvm.Cond.codeSync ({ cls := "java/lang/Throwable", name := "fillInStackTrace", desc := "()Ljava/lang/Throwable;" } : Jvm.MethodName) prog_12_method_18_code (1 : Nat) (Option.some (Jvm.ClassFile.FieldType.object "java/lang/Throwable"))) ∈ WT := wt_1 (i := 155) rfl rfl
theorem k156 : (Jvm.Cond.methodLink "java/lang/Throwable" (202 : Nat) ({ cls := "java/lang/Throwable", name := "fillInStackTrace", desc := "(I)Ljava/lang/Throwable;" } : Jvm.MethodName)) ∈ WT := wt_1 (i := 156) rfl rfl
theorem k157 : (Jvm.Cond.privateMethod ({ cls := "java/lang/Throwable", name := "fillInStackTrace", desc := "(I)Ljava/lang/Throwable;" } : Jvm.MethodName)) ∈ lw_tbl := wn_1 (i := 157) rfl
theorem k158 : (Jvm.Cond.instanceMethod ({ cls := "java/lang/Throwable", name := "fillInStackTrace", desc := "(I)Ljava/lang/Throwable;" } : Jvm.MethodName)) ∈ WT := wt_1 (i := 158) rfl rfl
theorem k159 : (Jvm.Cond.instantiable "java/lang/Throwable" (6 : Nat)) ∈ WT := wt_1 (i := 159) rfl rfl
theorem k160 : (Jvm.Cond.native ({ cls := "java/lang/Throwable", name := "fillInStackTrace", desc := "(I)Ljava/lang/Throwable;" } : Jvm.MethodName)) ∈ WT := wt_1 (i := 160) rfl rfl
theorem k161 : (Jvm.Cond.methodLink "TwoTimesTable" (32 : Nat) ({ cls := "java/lang/IllegalStateException", name := "<init>", desc := "()V" } : Jvm.MethodName)) ∈ WT := wt_1 (i := 161) rfl rfl
theorem k162 : (Jvm.Cond.instanceMethod ({ cls := "java/lang/IllegalStateException", name := "<init>", desc := "()V" } : Jvm.MethodName)) ∈ WT := wt_1 (i := 162) rfl rfl
theorem k163 : (Jvm.Cond.code ({ cls := "java/lang/IllegalStateException", name := "<init>", desc := "()V" } : Jvm.MethodName) prog_8_method_1_code (1 : Nat) (Option.none : Option Jvm.ClassFile.FieldType)) ∈ WT := wt_1 (i := 163) rfl rfl
theorem k164 : (Jvm.Cond.methodLink "java/lang/IllegalStateException" (1 : Nat) ({ cls := "java/lang/RuntimeException", name := "<init>", desc := "()V" } : Jvm.MethodName)) ∈ WT := wt_1 (i := 164) rfl rfl
theorem k165 : (Jvm.Cond.instanceMethod ({ cls := "java/lang/RuntimeException", name := "<init>", desc := "()V" } : Jvm.MethodName)) ∈ WT := wt_1 (i := 165) rfl rfl
theorem k166 : (Jvm.Cond.code ({ cls := "java/lang/RuntimeException", name := "<init>", desc := "()V" } : Jvm.MethodName) prog_10_method_1_code (1 : Nat) (Option.none : Option Jvm.ClassFile.FieldType)) ∈ WT := wt_1 (i := 166) rfl rfl
theorem k167 : (Jvm.Cond.methodLink "java/lang/RuntimeException" (1 : Nat) ({ cls := "java/lang/Exception", name := "<init>", desc := "()V" } : Jvm.MethodName)) ∈ WT := wt_1 (i := 167) rfl rfl
theorem k168 : (Jvm.Cond.instanceMethod ({ cls := "java/lang/Exception", name := "<init>", desc := "()V" } : Jvm.MethodName)) ∈ WT := wt_1 (i := 168) rfl rfl
theorem k169 : (Jvm.Cond.code ({ cls := "java/lang/Exception", name := "<init>", desc := "()V" } : Jvm.MethodName) prog_6_method_1_code (1 : Nat) (Option.none : Option Jvm.ClassFile.FieldType)) ∈ WT := wt_1 (i := 169) rfl rfl
theorem k170 : (Jvm.Cond.methodLink "java/lang/Exception" (1 : Nat) ({ cls := "java/lang/Throwable", name := "<init>", desc := "()V" } : Jvm.MethodName)) ∈ WT := wt_1 (i := 170) rfl rfl
theorem k171 : (Jvm.Cond.fieldLink "java/lang/Throwable" (198 : Nat) "java/lang/Throwable" "backtrace" "Ljava/lang/Object;") ∈ WT := wt_1 (i := 171) rfl rfl
theorem k172 : (Jvm.Cond.fieldLink "java/lang/Throwable" (7 : Nat) "java/lang/Throwable" "cause" "Ljava/lang/Throwable;") ∈ WT := wt_1 (i := 172) rfl rfl
theorem k173 : (Jvm.Cond.fieldLink "java/lang/Throwable" (17 : Nat) "java/lang/Throwable" "stackTrace" "[Ljava/lang/StackTraceElement;") ∈ WT := wt_1 (i := 173) rfl rfl
theorem k174 : (Jvm.Cond.fieldLink "java/lang/Throwable" (24 : Nat) "java/lang/Throwable" "suppressedExceptions" "Ljava/util/List;") ∈ WT := wt_1 (i := 174) rfl rfl
theorem k175 : (Jvm.Cond.soleField "java/lang/Throwable" "backtrace") ∈ WT := wt_1 (i := 175) rfl rfl
theorem k176 : (Jvm.Cond.soleField "java/lang/Throwable" "detailMessage") ∈ WT := wt_1 (i := 176) rfl rfl
theorem k177 : (Jvm.Cond.soleField "java/lang/Throwable" "cause") ∈ WT := wt_1 (i := 177) rfl rfl
theorem k178 : (Jvm.Cond.soleField "java/lang/Throwable" "stackTrace") ∈ WT := wt_1 (i := 178) rfl rfl
theorem k179 : (Jvm.Cond.lays "java/lang/IllegalStateException" "java/lang/Throwable" "depth" "I") ∈ WT := wt_1 (i := 179) rfl rfl
theorem k180 : (Jvm.Cond.soleField "java/lang/Throwable" "depth") ∈ WT := wt_1 (i := 180) rfl rfl
theorem k181 : (Jvm.Cond.soleField "java/lang/Throwable" "suppressedExceptions") ∈ WT := wt_1 (i := 181) rfl rfl
theorem k182 : (Jvm.Cond.superclass "java/lang/IllegalStateException" "java/lang/RuntimeException") ∈ WT := wt_1 (i := 182) rfl rfl
theorem k183 : (Jvm.Cond.methodLink "TwoTimesTable" (33 : Nat) ({ cls := "TwoTimesTable$States", name := "goOn", desc := "()V" } : Jvm.MethodName)) ∈ WT := wt_1 (i := 183) rfl rfl
theorem k184 : (Jvm.Cond.instanceMethod ({ cls := "TwoTimesTable$States", name := "goOn", desc := "()V" } : Jvm.MethodName)) ∈ WT := wt_1 (i := 184) rfl rfl
theorem k185 : (Jvm.Cond.selects "TwoTimesTable$States" ({ cls := "TwoTimesTable$States", name := "goOn", desc := "()V" } : Jvm.MethodName) ({ cls := "TwoTimesTable$States", name := "goOn", desc := "()V" } : Jvm.MethodName)) ∈ WT := wt_1 (i := 185) rfl rfl
theorem k186 : (Jvm.Cond.code ({ cls := "TwoTimesTable$States", name := "goOn", desc := "()V" } : Jvm.MethodName) prog_2_method_2_code (1 : Nat) (Option.none : Option Jvm.ClassFile.FieldType)) ∈ WT := wt_1 (i := 186) rfl rfl
theorem k187 : (Jvm.Cond.methodLink "TwoTimesTable$States" (25 : Nat) ({ cls := "TwoTimesTable$States", name := "copyState", desc := "(II)V" } : Jvm.MethodName)) ∈ WT := wt_1 (i := 187) rfl rfl
theorem k188 : (Jvm.Cond.privateMethod ({ cls := "TwoTimesTable$States", name := "copyState", desc := "(II)V" } : Jvm.MethodName)) ∈ lw_tbl := wn_1 (i := 188) rfl
theorem k189 : (Jvm.Cond.instanceMethod ({ cls := "TwoTimesTable$States", name := "copyState", desc := "(II)V" } : Jvm.MethodName)) ∈ WT := wt_1 (i := 189) rfl rfl
theorem k190 : (Jvm.Cond.code ({ cls := "TwoTimesTable$States", name := "copyState", desc := "(II)V" } : Jvm.MethodName) prog_2_method_5_code (3 : Nat) (Option.none : Option Jvm.ClassFile.FieldType)) ∈ WT := wt_1 (i := 190) rfl rfl
theorem k191 : (Jvm.Cond.methodLink "TwoTimesTable$States" (33 : Nat) ({ cls := "java/lang/System", name := "arraycopy", desc := "(Ljava/lang/Object;ILjava/lang/Object;II)V" } : Jvm.MethodName)) ∈ WT := wt_1 (i := 191) rfl rfl
theorem k192 : (Jvm.Cond.static ({ cls := "java/lang/System", name := "arraycopy", desc := "(Ljava/lang/Object;ILjava/lang/Object;II)V" } : Jvm.MethodName)) ∈ WT := wt_1 (i := 192) rfl rfl
theorem k193 : (Jvm.Cond.native ({ cls := "java/lang/System", name := "arraycopy", desc := "(Ljava/lang/Object;ILjava/lang/Object;II)V" } : Jvm.MethodName)) ∈ WT := wt_1 (i := 193) rfl rfl
theorem k194 : (Jvm.Cond.methodLink "TwoTimesTableLaw" (73 : Nat) ({ cls := "TwoTimesTableLaw", name := "state", desc := "(LTwoTimesTable;IIIII[J)I" } : Jvm.MethodName)) ∈ WT := wt_1 (i := 194) rfl rfl
theorem k195 : (Jvm.Cond.static ({ cls := "TwoTimesTableLaw", name := "state", desc := "(LTwoTimesTable;IIIII[J)I" } : Jvm.MethodName)) ∈ WT := wt_1 (i := 195) rfl rfl
theorem k196 : (Jvm.Cond.codeWith ({ cls := "TwoTimesTableLaw", name := "state", desc := "(LTwoTimesTable;IIIII[J)I" } : Jvm.MethodName) method_4_code (8 : Nat) (Option.some Jvm.ClassFile.FieldType.int) [((0 : Nat), (16 : Nat), (19 : Nat), (19 : Nat)), ((0 : Nat), (16 : Nat), (23 : Nat), (13 : Nat)), ((0 : Nat), (16 : Nat), (27 : Nat), (21 : Nat))]) ∈ WT := wt_1 (i := 196) rfl rfl
theorem k197 : (Jvm.Cond.classLink "TwoTimesTableLaw" (19 : Nat) "java/lang/IllegalArgumentException") ∈ WT := wt_1 (i := 197) rfl rfl
theorem k198 : (Jvm.Cond.classLink "TwoTimesTableLaw" (21 : Nat) "java/util/NoSuchElementException") ∈ WT := wt_1 (i := 198) rfl rfl
theorem k199 : (Jvm.Cond.methodLink "TwoTimesTableLaw" (15 : Nat) ({ cls := "TwoTimesTable", name := "state", desc := "(IIIII)I" } : Jvm.MethodName)) ∈ WT := wt_1 (i := 199) rfl rfl
theorem k200 : (Jvm.Cond.instanceMethod ({ cls := "TwoTimesTable", name := "state", desc := "(IIIII)I" } : Jvm.MethodName)) ∈ WT := wt_1 (i := 200) rfl rfl
theorem k201 : (Jvm.Cond.selects "TwoTimesTable" ({ cls := "TwoTimesTable", name := "state", desc := "(IIIII)I" } : Jvm.MethodName) ({ cls := "TwoTimesTable", name := "state", desc := "(IIIII)I" } : Jvm.MethodName)) ∈ WT := wt_1 (i := 201) rfl rfl
theorem k202 : (Jvm.Cond.code ({ cls := "TwoTimesTable", name := "state", desc := "(IIIII)I" } : Jvm.MethodName) prog_1_method_4_code (7 : Nat) (Option.some Jvm.ClassFile.FieldType.int)) ∈ WT := wt_1 (i := 202) rfl rfl
theorem k203 : (Jvm.Cond.methodLink "TwoTimesTable" (36 : Nat) ({ cls := "TwoTimesTable$States", name := "save", desc := "()V" } : Jvm.MethodName)) ∈ WT := wt_1 (i := 203) rfl rfl
theorem k204 : (Jvm.Cond.instanceMethod ({ cls := "TwoTimesTable$States", name := "save", desc := "()V" } : Jvm.MethodName)) ∈ WT := wt_1 (i := 204) rfl rfl
theorem k205 : (Jvm.Cond.selects "TwoTimesTable$States" ({ cls := "TwoTimesTable$States", name := "save", desc := "()V" } : Jvm.MethodName) ({ cls := "TwoTimesTable$States", name := "save", desc := "()V" } : Jvm.MethodName)) ∈ WT := wt_1 (i := 205) rfl rfl
theorem k206 : (Jvm.Cond.code ({ cls := "TwoTimesTable$States", name := "save", desc := "()V" } : Jvm.MethodName) prog_2_method_3_code (1 : Nat) (Option.none : Option Jvm.ClassFile.FieldType)) ∈ WT := wt_1 (i := 206) rfl rfl
theorem k207 : (Jvm.Cond.methodLink "TwoTimesTable" (39 : Nat) ({ cls := "TwoTimesTable$States", name := "perform", desc := "(IIIII)I" } : Jvm.MethodName)) ∈ WT := wt_1 (i := 207) rfl rfl
theorem k208 : (Jvm.Cond.instanceMethod ({ cls := "TwoTimesTable$States", name := "perform", desc := "(IIIII)I" } : Jvm.MethodName)) ∈ WT := wt_1 (i := 208) rfl rfl
theorem k209 : (Jvm.Cond.selects "TwoTimesTable$States" ({ cls := "TwoTimesTable$States", name := "perform", desc := "(IIIII)I" } : Jvm.MethodName) ({ cls := "TwoTimesTable$States", name := "perform", desc := "(IIIII)I" } : Jvm.MethodName)) ∈ WT := wt_1 (i := 209) rfl rfl
theorem k210 : (Jvm.Cond.code ({ cls := "TwoTimesTable$States", name := "perform", desc := "(IIIII)I" } : Jvm.MethodName) prog_2_method_6_code (10 : Nat) (Option.some Jvm.ClassFile.FieldType.int)) ∈ WT := wt_1 (i := 210) rfl rfl
theorem k211 : (Jvm.Cond.methodLinkNest "TwoTimesTable$States" (39 : Nat) ({ cls := "TwoTimesTable", name := "isKey", desc := "(I)Z" } : Jvm.MethodName) "TwoTimesTable") ∈ lw_tbl := wn_1 (i := 211) rfl
theorem k212 : (Jvm.Cond.methodLinkNest "TwoTimesTable$States" (43 : Nat) ({ cls := "TwoTimesTable", name := "isPeriod", desc := "(II)Z" } : Jvm.MethodName) "TwoTimesTable") ∈ lw_tbl := wn_1 (i := 212) rfl
theorem k213 : (Jvm.Cond.static ({ cls := "TwoTimesTable", name := "isPeriod", desc := "(II)Z" } : Jvm.MethodName)) ∈ WT := wt_1 (i := 213) rfl rfl
theorem k214 : (Jvm.Cond.code ({ cls := "TwoTimesTable", name := "isPeriod", desc := "(II)Z" } : Jvm.MethodName) prog_1_method_21_code (2 : Nat) (Option.some Jvm.ClassFile.FieldType.boolean)) ∈ WT := wt_1 (i := 214) rfl rfl
theorem k215 : (Jvm.Cond.methodLinkNest "TwoTimesTable$States" (47 : Nat) ({ cls := "TwoTimesTable", name := "slotOf", desc := "(II)I" } : Jvm.MethodName) "TwoTimesTable") ∈ lw_tbl := wn_1 (i := 215) rfl
theorem k216 : (Jvm.Cond.methodLink "TwoTimesTable$States" (51 : Nat) ({ cls := "TwoTimesTable$States", name := "maskOf", desc := "(II)I" } : Jvm.MethodName)) ∈ WT := wt_1 (i := 216) rfl rfl
theorem k217 : (Jvm.Cond.static ({ cls := "TwoTimesTable$States", name := "maskOf", desc := "(II)I" } : Jvm.MethodName)) ∈ WT := wt_1 (i := 217) rfl rfl
theorem k218 : (Jvm.Cond.code ({ cls := "TwoTimesTable$States", name := "maskOf", desc := "(II)I" } : Jvm.MethodName) prog_2_method_7_code (2 : Nat) (Option.some Jvm.ClassFile.FieldType.int)) ∈ WT := wt_1 (i := 218) rfl rfl
theorem k219 : (Jvm.Cond.methodLink "TwoTimesTable$States" (54 : Nat) ({ cls := "TwoTimesTable$States", name := "changeDay", desc := "(IIII)Z" } : Jvm.MethodName)) ∈ WT := wt_1 (i := 219) rfl rfl
theorem k220 : (Jvm.Cond.privateMethod ({ cls := "TwoTimesTable$States", name := "changeDay", desc := "(IIII)Z" } : Jvm.MethodName)) ∈ lw_tbl := wn_1 (i := 220) rfl
theorem k221 : (Jvm.Cond.instanceMethod ({ cls := "TwoTimesTable$States", name := "changeDay", desc := "(IIII)Z" } : Jvm.MethodName)) ∈ WT := wt_1 (i := 221) rfl rfl
theorem k222 : (Jvm.Cond.code ({ cls := "TwoTimesTable$States", name := "changeDay", desc := "(IIII)Z" } : Jvm.MethodName) prog_2_method_8_code (9 : Nat) (Option.some Jvm.ClassFile.FieldType.boolean)) ∈ WT := wt_1 (i := 222) rfl rfl
theorem k223 : (Jvm.Cond.methodLink "TwoTimesTable$States" (62 : Nat) ({ cls := "TwoTimesTable$States", name := "isFilled", desc := "(II)Z" } : Jvm.MethodName)) ∈ WT := wt_1 (i := 223) rfl rfl
theorem k224 : (Jvm.Cond.methodLink "TwoTimesTable$States" (29 : Nat) ({ cls := "TwoTimesTable$States", name := "recountRows", desc := "(I)V" } : Jvm.MethodName)) ∈ WT := wt_1 (i := 224) rfl rfl
theorem k225 : (Jvm.Cond.privateMethod ({ cls := "TwoTimesTable$States", name := "recountRows", desc := "(I)V" } : Jvm.MethodName)) ∈ lw_tbl := wn_1 (i := 225) rfl
theorem k226 : (Jvm.Cond.instanceMethod ({ cls := "TwoTimesTable$States", name := "recountRows", desc := "(I)V" } : Jvm.MethodName)) ∈ WT := wt_1 (i := 226) rfl rfl
theorem k227 : (Jvm.Cond.code ({ cls := "TwoTimesTable$States", name := "recountRows", desc := "(I)V" } : Jvm.MethodName) prog_2_method_19_code (5 : Nat) (Option.none : Option Jvm.ClassFile.FieldType)) ∈ WT := wt_1 (i := 227) rfl rfl
theorem k228 : (Jvm.Cond.methodLink "TwoTimesTable$States" (81 : Nat) ({ cls := "TwoTimesTable$States", name := "startsRow", desc := "(II)Z" } : Jvm.MethodName)) ∈ WT := wt_1 (i := 228) rfl rfl
theorem k229 : (Jvm.Cond.privateMethod ({ cls := "TwoTimesTable$States", name := "startsRow", desc := "(II)Z" } : Jvm.MethodName)) ∈ lw_tbl := wn_1 (i := 229) rfl
theorem k230 : (Jvm.Cond.instanceMethod ({ cls := "TwoTimesTable$States", name := "startsRow", desc := "(II)Z" } : Jvm.MethodName)) ∈ WT := wt_1 (i := 230) rfl rfl
theorem k231 : (Jvm.Cond.code ({ cls := "TwoTimesTable$States", name := "startsRow", desc := "(II)Z" } : Jvm.MethodName) prog_2_method_20_code (3 : Nat) (Option.some Jvm.ClassFile.FieldType.boolean)) ∈ WT := wt_1 (i := 231) rfl rfl
theorem k232 : (Jvm.Cond.methodLink "TwoTimesTable$States" (71 : Nat) ({ cls := "TwoTimesTable$States", name := "startsRun", desc := "(II)Z" } : Jvm.MethodName)) ∈ WT := wt_1 (i := 232) rfl rfl
theorem k233 : (Jvm.Cond.instanceMethod ({ cls := "TwoTimesTable$States", name := "startsRun", desc := "(II)Z" } : Jvm.MethodName)) ∈ WT := wt_1 (i := 233) rfl rfl
theorem k234 : (Jvm.Cond.selects "TwoTimesTable$States" ({ cls := "TwoTimesTable$States", name := "startsRun", desc := "(II)Z" } : Jvm.MethodName) ({ cls := "TwoTimesTable$States", name := "startsRun", desc := "(II)Z" } : Jvm.MethodName)) ∈ WT := wt_1 (i := 234) rfl rfl
theorem k235 : (Jvm.Cond.code ({ cls := "TwoTimesTable$States", name := "startsRun", desc := "(II)Z" } : Jvm.MethodName) prog_2_method_12_code (3 : Nat) (Option.some Jvm.ClassFile.FieldType.boolean)) ∈ WT := wt_1 (i := 235) rfl rfl
theorem k236 : (Jvm.Cond.methodLink "TwoTimesTable$States" (68 : Nat) ({ cls := "TwoTimesTable$States", name := "continuesRun", desc := "(II)Z" } : Jvm.MethodName)) ∈ WT := wt_1 (i := 236) rfl rfl
theorem k237 : (Jvm.Cond.privateMethod ({ cls := "TwoTimesTable$States", name := "continuesRun", desc := "(II)Z" } : Jvm.MethodName)) ∈ lw_tbl := wn_1 (i := 237) rfl
theorem k238 : (Jvm.Cond.instanceMethod ({ cls := "TwoTimesTable$States", name := "continuesRun", desc := "(II)Z" } : Jvm.MethodName)) ∈ WT := wt_1 (i := 238) rfl rfl
theorem k239 : (Jvm.Cond.code ({ cls := "TwoTimesTable$States", name := "continuesRun", desc := "(II)Z" } : Jvm.MethodName) prog_2_method_13_code (4 : Nat) (Option.some Jvm.ClassFile.FieldType.boolean)) ∈ WT := wt_1 (i := 239) rfl rfl
theorem k240 : (Jvm.Cond.methodLink "TwoTimesTable$States" (84 : Nat) ({ cls := "TwoTimesTable$States", name := "sharesRun", desc := "(III)Z" } : Jvm.MethodName)) ∈ WT := wt_2 (i := 0) rfl rfl
theorem k241 : (Jvm.Cond.privateMethod ({ cls := "TwoTimesTable$States", name := "sharesRun", desc := "(III)Z" } : Jvm.MethodName)) ∈ lw_tbl := wn_2 (i := 1) rfl
theorem k242 : (Jvm.Cond.instanceMethod ({ cls := "TwoTimesTable$States", name := "sharesRun", desc := "(III)Z" } : Jvm.MethodName)) ∈ WT := wt_2 (i := 2) rfl rfl
theorem k243 : (Jvm.Cond.code ({ cls := "TwoTimesTable$States", name := "sharesRun", desc := "(III)Z" } : Jvm.MethodName) prog_2_method_21_code (4 : Nat) (Option.some Jvm.ClassFile.FieldType.boolean)) ∈ WT := wt_2 (i := 3) rfl rfl
theorem k244 : (Jvm.Cond.methodLink "TwoTimesTable$States" (65 : Nat) ({ cls := "TwoTimesTable$States", name := "valueOn", desc := "(II)I" } : Jvm.MethodName)) ∈ WT := wt_2 (i := 4) rfl rfl
theorem k245 : (Jvm.Cond.instanceMethod ({ cls := "TwoTimesTable$States", name := "valueOn", desc := "(II)I" } : Jvm.MethodName)) ∈ WT := wt_2 (i := 5) rfl rfl
theorem k246 : (Jvm.Cond.selects "TwoTimesTable$States" ({ cls := "TwoTimesTable$States", name := "valueOn", desc := "(II)I" } : Jvm.MethodName) ({ cls := "TwoTimesTable$States", name := "valueOn", desc := "(II)I" } : Jvm.MethodName)) ∈ WT := wt_2 (i := 6) rfl rfl
theorem k247 : (Jvm.Cond.code ({ cls := "TwoTimesTable$States", name := "valueOn", desc := "(II)I" } : Jvm.MethodName) prog_2_method_10_code (3 : Nat) (Option.some Jvm.ClassFile.FieldType.int)) ∈ WT := wt_2 (i := 7) rfl rfl
theorem k248 : (Jvm.Cond.methodLink "TwoTimesTable$States" (74 : Nat) ({ cls := "TwoTimesTable$States", name := "runEnd", desc := "(II)I" } : Jvm.MethodName)) ∈ WT := wt_2 (i := 8) rfl rfl
theorem k249 : (Jvm.Cond.instanceMethod ({ cls := "TwoTimesTable$States", name := "runEnd", desc := "(II)I" } : Jvm.MethodName)) ∈ WT := wt_2 (i := 9) rfl rfl
theorem k250 : (Jvm.Cond.selects "TwoTimesTable$States" ({ cls := "TwoTimesTable$States", name := "runEnd", desc := "(II)I" } : Jvm.MethodName) ({ cls := "TwoTimesTable$States", name := "runEnd", desc := "(II)I" } : Jvm.MethodName)) ∈ WT := wt_2 (i := 10) rfl rfl
theorem k251 : (Jvm.Cond.code ({ cls := "TwoTimesTable$States", name := "runEnd", desc := "(II)I" } : Jvm.MethodName) prog_2_method_14_code (4 : Nat) (Option.some Jvm.ClassFile.FieldType.int)) ∈ WT := wt_2 (i := 11) rfl rfl
theorem k252 : (Jvm.Cond.methodLink "TwoTimesTable$States" (58 : Nat) ({ cls := "TwoTimesTable$States", name := "countRows", desc := "()I" } : Jvm.MethodName)) ∈ WT := wt_2 (i := 12) rfl rfl
theorem k253 : (Jvm.Cond.methodLink "TwoTimesTable" (43 : Nat) ({ cls := "TwoTimesTable$States", name := "restore", desc := "()V" } : Jvm.MethodName)) ∈ WT := wt_2 (i := 13) rfl rfl
theorem k254 : (Jvm.Cond.instanceMethod ({ cls := "TwoTimesTable$States", name := "restore", desc := "()V" } : Jvm.MethodName)) ∈ WT := wt_2 (i := 14) rfl rfl
theorem k255 : (Jvm.Cond.selects "TwoTimesTable$States" ({ cls := "TwoTimesTable$States", name := "restore", desc := "()V" } : Jvm.MethodName) ({ cls := "TwoTimesTable$States", name := "restore", desc := "()V" } : Jvm.MethodName)) ∈ WT := wt_2 (i := 15) rfl rfl
theorem k256 : (Jvm.Cond.code ({ cls := "TwoTimesTable$States", name := "restore", desc := "()V" } : Jvm.MethodName) prog_2_method_4_code (2 : Nat) (Option.none : Option Jvm.ClassFile.FieldType)) ∈ WT := wt_2 (i := 16) rfl rfl
theorem k257 : (Jvm.Cond.methodLink "TwoTimesTable" (46 : Nat) ({ cls := "TwoTimesTable", name := "refuse", desc := "(I)V" } : Jvm.MethodName)) ∈ WT := wt_2 (i := 17) rfl rfl
theorem k258 : (Jvm.Cond.static ({ cls := "TwoTimesTable", name := "refuse", desc := "(I)V" } : Jvm.MethodName)) ∈ WT := wt_2 (i := 18) rfl rfl
theorem k259 : (Jvm.Cond.code ({ cls := "TwoTimesTable", name := "refuse", desc := "(I)V" } : Jvm.MethodName) prog_1_method_18_code (1 : Nat) (Option.none : Option Jvm.ClassFile.FieldType)) ∈ WT := wt_2 (i := 19) rfl rfl
theorem k260 : (Jvm.Cond.classLink "TwoTimesTable" (71 : Nat) "java/lang/IllegalArgumentException") ∈ WT := wt_2 (i := 20) rfl rfl
theorem k261 : (Jvm.Cond.instantiable "java/lang/IllegalArgumentException" (6 : Nat)) ∈ WT := wt_2 (i := 21) rfl rfl
theorem k262 : (Jvm.Cond.castable "java/lang/IllegalArgumentException" "java/lang/IllegalArgumentException") ∈ lw_tbl := wn_2 (i := 22) rfl
theorem k263 : (Jvm.Cond.selects "java/lang/IllegalArgumentException" ({ cls := "java/lang/Throwable", name := "fillInStackTrace", desc := "(I)Ljava/lang/Throwable;" } : Jvm.MethodName) ({ cls := "java/lang/Throwable", name := "fillInStackTrace", desc := "(I)Ljava/lang/Throwable;" } : Jvm.MethodName)) ∈ WT := wt_2 (i := 23) rfl rfl
theorem k264 : (Jvm.Cond.lays "java/lang/IllegalArgumentException" "java/lang/Throwable" "cause" "Ljava/lang/Throwable;") ∈ WT := wt_2 (i := 24) rfl rfl
theorem k265 : (Jvm.Cond.lays "java/lang/IllegalArgumentException" "java/lang/Throwable" "stackTrace" "[Ljava/lang/StackTraceElement;") ∈ WT := wt_2 (i := 25) rfl rfl
theorem k266 : (Jvm.Cond.lays "java/lang/IllegalArgumentException" "java/lang/Throwable" "suppressedExceptions" "Ljava/util/List;") ∈ WT := wt_2 (i := 26) rfl rfl
theorem k267 : (Jvm.Cond.lays "java/lang/IllegalArgumentException" "java/lang/Throwable" "detailMessage" "Ljava/lang/String;") ∈ WT := wt_2 (i := 27) rfl rfl
theorem k268 : (Jvm.Cond.lays "java/lang/IllegalArgumentException" "java/lang/Throwable" "backtrace" "Ljava/lang/Object;") ∈ WT := wt_2 (i := 28) rfl rfl
theorem k269 : (Jvm.Cond.methodLink "TwoTimesTable" (73 : Nat) ({ cls := "java/lang/IllegalArgumentException", name := "<init>", desc := "()V" } : Jvm.MethodName)) ∈ WT := wt_2 (i := 29) rfl rfl
theorem k270 : (Jvm.Cond.instanceMethod ({ cls := "java/lang/IllegalArgumentException", name := "<init>", desc := "()V" } : Jvm.MethodName)) ∈ WT := wt_2 (i := 30) rfl rfl
theorem k271 : (Jvm.Cond.code ({ cls := "java/lang/IllegalArgumentException", name := "<init>", desc := "()V" } : Jvm.MethodName) prog_7_method_1_code (1 : Nat) (Option.none : Option Jvm.ClassFile.FieldType)) ∈ WT := wt_2 (i := 31) rfl rfl
theorem k272 : (Jvm.Cond.methodLink "java/lang/IllegalArgumentException" (1 : Nat) ({ cls := "java/lang/RuntimeException", name := "<init>", desc := "()V" } : Jvm.MethodName)) ∈ WT := wt_2 (i := 32) rfl rfl
theorem k273 : (Jvm.Cond.lays "java/lang/IllegalArgumentException" "java/lang/Throwable" "depth" "I") ∈ WT := wt_2 (i := 33) rfl rfl
theorem k274 : (Jvm.Cond.superclass "java/lang/IllegalArgumentException" "java/lang/RuntimeException") ∈ WT := wt_2 (i := 34) rfl rfl
theorem k275 : (Jvm.Cond.classLink "TwoTimesTable" (81 : Nat) "java/util/NoSuchElementException") ∈ WT := wt_2 (i := 35) rfl rfl
theorem k276 : (Jvm.Cond.instantiable "java/util/NoSuchElementException" (6 : Nat)) ∈ WT := wt_2 (i := 36) rfl rfl
theorem k277 : (Jvm.Cond.castable "java/util/NoSuchElementException" "java/util/NoSuchElementException") ∈ lw_tbl := wn_2 (i := 37) rfl
theorem k278 : (Jvm.Cond.selects "java/util/NoSuchElementException" ({ cls := "java/lang/Throwable", name := "fillInStackTrace", desc := "(I)Ljava/lang/Throwable;" } : Jvm.MethodName) ({ cls := "java/lang/Throwable", name := "fillInStackTrace", desc := "(I)Ljava/lang/Throwable;" } : Jvm.MethodName)) ∈ WT := wt_2 (i := 38) rfl rfl
theorem k279 : (Jvm.Cond.lays "java/util/NoSuchElementException" "java/lang/Throwable" "cause" "Ljava/lang/Throwable;") ∈ WT := wt_2 (i := 39) rfl rfl
theorem k280 : (Jvm.Cond.lays "java/util/NoSuchElementException" "java/lang/Throwable" "stackTrace" "[Ljava/lang/StackTraceElement;") ∈ WT := wt_2 (i := 40) rfl rfl
theorem k281 : (Jvm.Cond.lays "java/util/NoSuchElementException" "java/lang/Throwable" "suppressedExceptions" "Ljava/util/List;") ∈ WT := wt_2 (i := 41) rfl rfl
theorem k282 : (Jvm.Cond.lays "java/util/NoSuchElementException" "java/lang/Throwable" "detailMessage" "Ljava/lang/String;") ∈ WT := wt_2 (i := 42) rfl rfl
theorem k283 : (Jvm.Cond.lays "java/util/NoSuchElementException" "java/lang/Throwable" "backtrace" "Ljava/lang/Object;") ∈ WT := wt_2 (i := 43) rfl rfl
theorem k284 : (Jvm.Cond.methodLink "TwoTimesTable" (83 : Nat) ({ cls := "java/util/NoSuchElementException", name := "<init>", desc := "()V" } : Jvm.MethodName)) ∈ WT := wt_2 (i := 44) rfl rfl
theorem k285 : (Jvm.Cond.instanceMethod ({ cls := "java/util/NoSuchElementException", name := "<init>", desc := "()V" } : Jvm.MethodName)) ∈ WT := wt_2 (i := 45) rfl rfl
theorem k286 : (Jvm.Cond.code ({ cls := "java/util/NoSuchElementException", name := "<init>", desc := "()V" } : Jvm.MethodName) prog_13_method_1_code (1 : Nat) (Option.none : Option Jvm.ClassFile.FieldType)) ∈ WT := wt_2 (i := 46) rfl rfl
theorem k287 : (Jvm.Cond.methodLink "java/util/NoSuchElementException" (1 : Nat) ({ cls := "java/lang/RuntimeException", name := "<init>", desc := "()V" } : Jvm.MethodName)) ∈ WT := wt_2 (i := 47) rfl rfl
theorem k288 : (Jvm.Cond.lays "java/util/NoSuchElementException" "java/lang/Throwable" "depth" "I") ∈ WT := wt_2 (i := 48) rfl rfl
theorem k289 : (Jvm.Cond.superclass "java/util/NoSuchElementException" "java/lang/RuntimeException") ∈ WT := wt_2 (i := 49) rfl rfl
theorem k290 : (Jvm.Cond.methodLink "TwoTimesTableLaw" (82 : Nat) ({ cls := "TwoTimesTableLaw", name := "commit", desc := "(LTwoTimesTable;[J)I" } : Jvm.MethodName)) ∈ WT := wt_2 (i := 50) rfl rfl
theorem k291 : (Jvm.Cond.static ({ cls := "TwoTimesTableLaw", name := "commit", desc := "(LTwoTimesTable;[J)I" } : Jvm.MethodName)) ∈ WT := wt_2 (i := 51) rfl rfl
theorem k292 : (Jvm.Cond.codeWith ({ cls := "TwoTimesTableLaw", name := "commit", desc := "(LTwoTimesTable;[J)I" } : Jvm.MethodName) method_5_code (3 : Nat) (Option.some Jvm.ClassFile.FieldType.int) [((0 : Nat), (8 : Nat), (11 : Nat), (19 : Nat)), ((0 : Nat), (8 : Nat), (14 : Nat), (13 : Nat)), ((0 : Nat), (8 : Nat), (17 : Nat), (21 : Nat))]) ∈ WT := wt_2 (i := 52) rfl rfl
theorem k293 : (Jvm.Cond.methodLink "TwoTimesTableLaw" (23 : Nat) ({ cls := "TwoTimesTable", name := "commit", desc := "()I" } : Jvm.MethodName)) ∈ WT := wt_2 (i := 53) rfl rfl
theorem k294 : (Jvm.Cond.instanceMethod ({ cls := "TwoTimesTable", name := "commit", desc := "()I" } : Jvm.MethodName)) ∈ WT := wt_2 (i := 54) rfl rfl
theorem k295 : (Jvm.Cond.selects "TwoTimesTable" ({ cls := "TwoTimesTable", name := "commit", desc := "()I" } : Jvm.MethodName) ({ cls := "TwoTimesTable", name := "commit", desc := "()I" } : Jvm.MethodName)) ∈ WT := wt_2 (i := 55) rfl rfl
theorem k296 : (Jvm.Cond.code ({ cls := "TwoTimesTable", name := "commit", desc := "()I" } : Jvm.MethodName) prog_1_method_6_code (5 : Nat) (Option.some Jvm.ClassFile.FieldType.int)) ∈ WT := wt_2 (i := 56) rfl rfl
theorem k297 : (Jvm.Cond.methodLink "TwoTimesTable" (57 : Nat) ({ cls := "TwoTimesTable$Waiting", name := "word", desc := "(II)I" } : Jvm.MethodName)) ∈ WT := wt_2 (i := 57) rfl rfl
theorem k298 : (Jvm.Cond.instanceMethod ({ cls := "TwoTimesTable$Waiting", name := "word", desc := "(II)I" } : Jvm.MethodName)) ∈ WT := wt_2 (i := 58) rfl rfl
theorem k299 : (Jvm.Cond.selects "TwoTimesTable$Waiting" ({ cls := "TwoTimesTable$Waiting", name := "word", desc := "(II)I" } : Jvm.MethodName) ({ cls := "TwoTimesTable$Waiting", name := "word", desc := "(II)I" } : Jvm.MethodName)) ∈ WT := wt_2 (i := 59) rfl rfl
theorem k300 : (Jvm.Cond.code ({ cls := "TwoTimesTable$Waiting", name := "word", desc := "(II)I" } : Jvm.MethodName) prog_3_method_3_code (3 : Nat) (Option.some Jvm.ClassFile.FieldType.int)) ∈ WT := wt_2 (i := 60) rfl rfl
theorem k301 : (Jvm.Cond.methodLink "TwoTimesTableLaw" (89 : Nat) ({ cls := "TwoTimesTableLaw", name := "value", desc := "(LTwoTimesTable;III[J)I" } : Jvm.MethodName)) ∈ WT := wt_2 (i := 61) rfl rfl
theorem k302 : (Jvm.Cond.static ({ cls := "TwoTimesTableLaw", name := "value", desc := "(LTwoTimesTable;III[J)I" } : Jvm.MethodName)) ∈ WT := wt_2 (i := 62) rfl rfl
theorem k303 : (Jvm.Cond.codeWith ({ cls := "TwoTimesTableLaw", name := "value", desc := "(LTwoTimesTable;III[J)I" } : Jvm.MethodName) method_6_code (6 : Nat) (Option.some Jvm.ClassFile.FieldType.int) [((0 : Nat), (12 : Nat), (15 : Nat), (19 : Nat)), ((0 : Nat), (12 : Nat), (19 : Nat), (21 : Nat))]) ∈ WT := wt_2 (i := 63) rfl rfl
theorem k304 : (Jvm.Cond.methodLink "TwoTimesTableLaw" (26 : Nat) ({ cls := "TwoTimesTable", name := "value", desc := "(III)I" } : Jvm.MethodName)) ∈ WT := wt_2 (i := 64) rfl rfl
theorem k305 : (Jvm.Cond.instanceMethod ({ cls := "TwoTimesTable", name := "value", desc := "(III)I" } : Jvm.MethodName)) ∈ WT := wt_2 (i := 65) rfl rfl
theorem k306 : (Jvm.Cond.selects "TwoTimesTable" ({ cls := "TwoTimesTable", name := "value", desc := "(III)I" } : Jvm.MethodName) ({ cls := "TwoTimesTable", name := "value", desc := "(III)I" } : Jvm.MethodName)) ∈ WT := wt_2 (i := 66) rfl rfl
theorem k307 : (Jvm.Cond.code ({ cls := "TwoTimesTable", name := "value", desc := "(III)I" } : Jvm.MethodName) prog_1_method_8_code (5 : Nat) (Option.some Jvm.ClassFile.FieldType.int)) ∈ WT := wt_2 (i := 67) rfl rfl
theorem k308 : (Jvm.Cond.methodLink "TwoTimesTable" (84 : Nat) ({ cls := "TwoTimesTable$States", name := "valueOn", desc := "(II)I" } : Jvm.MethodName)) ∈ WT := wt_2 (i := 68) rfl rfl
theorem k309 : (Jvm.Cond.methodLink "TwoTimesTableLaw" (98 : Nat) ({ cls := "TwoTimesTableLaw", name := "sum", desc := "(LTwoTimesTable;IIII[J)I" } : Jvm.MethodName)) ∈ WT := wt_2 (i := 69) rfl rfl
theorem k310 : (Jvm.Cond.static ({ cls := "TwoTimesTableLaw", name := "sum", desc := "(LTwoTimesTable;IIII[J)I" } : Jvm.MethodName)) ∈ WT := wt_2 (i := 70) rfl rfl
theorem k311 : (Jvm.Cond.codeWith ({ cls := "TwoTimesTableLaw", name := "sum", desc := "(LTwoTimesTable;IIII[J)I" } : Jvm.MethodName) method_7_code (7 : Nat) (Option.some Jvm.ClassFile.FieldType.int) [((0 : Nat), (13 : Nat), (16 : Nat), (19 : Nat))]) ∈ WT := wt_2 (i := 71) rfl rfl
theorem k312 : (Jvm.Cond.methodLink "TwoTimesTableLaw" (30 : Nat) ({ cls := "TwoTimesTable", name := "sum", desc := "(IIII)J" } : Jvm.MethodName)) ∈ WT := wt_2 (i := 72) rfl rfl
theorem k313 : (Jvm.Cond.instanceMethod ({ cls := "TwoTimesTable", name := "sum", desc := "(IIII)J" } : Jvm.MethodName)) ∈ WT := wt_2 (i := 73) rfl rfl
theorem k314 : (Jvm.Cond.selects "TwoTimesTable" ({ cls := "TwoTimesTable", name := "sum", desc := "(IIII)J" } : Jvm.MethodName) ({ cls := "TwoTimesTable", name := "sum", desc := "(IIII)J" } : Jvm.MethodName)) ∈ WT := wt_2 (i := 74) rfl rfl
theorem k315 : (Jvm.Cond.code ({ cls := "TwoTimesTable", name := "sum", desc := "(IIII)J" } : Jvm.MethodName) prog_1_method_10_code (9 : Nat) (Option.some Jvm.ClassFile.FieldType.long)) ∈ WT := wt_2 (i := 75) rfl rfl
theorem k316 : (Jvm.Cond.methodLink "TwoTimesTable" (87 : Nat) ({ cls := "TwoTimesTable", name := "isPeriod", desc := "(II)Z" } : Jvm.MethodName)) ∈ WT := wt_2 (i := 76) rfl rfl
theorem k317 : (Jvm.Cond.methodLink "TwoTimesTableLaw" (102 : Nat) ({ cls := "TwoTimesTableLaw", name := "runs", desc := "(LTwoTimesTable;II[J)I" } : Jvm.MethodName)) ∈ WT := wt_2 (i := 77) rfl rfl
theorem k318 : (Jvm.Cond.static ({ cls := "TwoTimesTableLaw", name := "runs", desc := "(LTwoTimesTable;II[J)I" } : Jvm.MethodName)) ∈ WT := wt_2 (i := 78) rfl rfl
theorem k319 : (Jvm.Cond.codeWith ({ cls := "TwoTimesTableLaw", name := "runs", desc := "(LTwoTimesTable;II[J)I" } : Jvm.MethodName) method_8_code (5 : Nat) (Option.some Jvm.ClassFile.FieldType.int) [((0 : Nat), (10 : Nat), (13 : Nat), (19 : Nat))]) ∈ WT := wt_2 (i := 79) rfl rfl
theorem k320 : (Jvm.Cond.methodLink "TwoTimesTableLaw" (34 : Nat) ({ cls := "TwoTimesTable", name := "runs", desc := "(II)I" } : Jvm.MethodName)) ∈ WT := wt_2 (i := 80) rfl rfl
theorem k321 : (Jvm.Cond.instanceMethod ({ cls := "TwoTimesTable", name := "runs", desc := "(II)I" } : Jvm.MethodName)) ∈ WT := wt_2 (i := 81) rfl rfl
theorem k322 : (Jvm.Cond.selects "TwoTimesTable" ({ cls := "TwoTimesTable", name := "runs", desc := "(II)I" } : Jvm.MethodName) ({ cls := "TwoTimesTable", name := "runs", desc := "(II)I" } : Jvm.MethodName)) ∈ WT := wt_2 (i := 82) rfl rfl
theorem k323 : (Jvm.Cond.code ({ cls := "TwoTimesTable", name := "runs", desc := "(II)I" } : Jvm.MethodName) prog_1_method_11_code (3 : Nat) (Option.some Jvm.ClassFile.FieldType.int)) ∈ WT := wt_2 (i := 83) rfl rfl
theorem k324 : (Jvm.Cond.methodLink "TwoTimesTable" (90 : Nat) ({ cls := "TwoTimesTable$States", name := "countRuns", desc := "(I)I" } : Jvm.MethodName)) ∈ WT := wt_2 (i := 84) rfl rfl
theorem k325 : (Jvm.Cond.instanceMethod ({ cls := "TwoTimesTable$States", name := "countRuns", desc := "(I)I" } : Jvm.MethodName)) ∈ WT := wt_2 (i := 85) rfl rfl
theorem k326 : (Jvm.Cond.selects "TwoTimesTable$States" ({ cls := "TwoTimesTable$States", name := "countRuns", desc := "(I)I" } : Jvm.MethodName) ({ cls := "TwoTimesTable$States", name := "countRuns", desc := "(I)I" } : Jvm.MethodName)) ∈ WT := wt_2 (i := 86) rfl rfl
theorem k327 : (Jvm.Cond.code ({ cls := "TwoTimesTable$States", name := "countRuns", desc := "(I)I" } : Jvm.MethodName) prog_2_method_15_code (4 : Nat) (Option.some Jvm.ClassFile.FieldType.int)) ∈ WT := wt_2 (i := 87) rfl rfl
theorem k328 : (Jvm.Cond.methodLink "TwoTimesTableLaw" (106 : Nat) ({ cls := "TwoTimesTableLaw", name := "run", desc := "(LTwoTimesTable;IIII[J)I" } : Jvm.MethodName)) ∈ WT := wt_2 (i := 88) rfl rfl
theorem k329 : (Jvm.Cond.static ({ cls := "TwoTimesTableLaw", name := "run", desc := "(LTwoTimesTable;IIII[J)I" } : Jvm.MethodName)) ∈ WT := wt_2 (i := 89) rfl rfl
theorem k330 : (Jvm.Cond.codeWith ({ cls := "TwoTimesTableLaw", name := "run", desc := "(LTwoTimesTable;IIII[J)I" } : Jvm.MethodName) method_9_code (7 : Nat) (Option.some Jvm.ClassFile.FieldType.int) [((0 : Nat), (14 : Nat), (17 : Nat), (19 : Nat)), ((0 : Nat), (14 : Nat), (21 : Nat), (42 : Nat))]) ∈ WT := wt_2 (i := 90) rfl rfl
theorem k331 : (Jvm.Cond.classLink "TwoTimesTableLaw" (42 : Nat) "java/lang/IndexOutOfBoundsException") ∈ WT := wt_2 (i := 91) rfl rfl
theorem k332 : (Jvm.Cond.methodLink "TwoTimesTableLaw" (38 : Nat) ({ cls := "TwoTimesTable", name := "run", desc := "(IIII)I" } : Jvm.MethodName)) ∈ WT := wt_2 (i := 92) rfl rfl
theorem k333 : (Jvm.Cond.instanceMethod ({ cls := "TwoTimesTable", name := "run", desc := "(IIII)I" } : Jvm.MethodName)) ∈ WT := wt_2 (i := 93) rfl rfl
theorem k334 : (Jvm.Cond.selects "TwoTimesTable" ({ cls := "TwoTimesTable", name := "run", desc := "(IIII)I" } : Jvm.MethodName) ({ cls := "TwoTimesTable", name := "run", desc := "(IIII)I" } : Jvm.MethodName)) ∈ WT := wt_2 (i := 94) rfl rfl
theorem k335 : (Jvm.Cond.code ({ cls := "TwoTimesTable", name := "run", desc := "(IIII)I" } : Jvm.MethodName) prog_1_method_12_code (7 : Nat) (Option.some Jvm.ClassFile.FieldType.int)) ∈ WT := wt_2 (i := 95) rfl rfl
theorem k336 : (Jvm.Cond.classLink "TwoTimesTable" (94 : Nat) "java/lang/IndexOutOfBoundsException") ∈ WT := wt_2 (i := 96) rfl rfl
theorem k337 : (Jvm.Cond.instantiable "java/lang/IndexOutOfBoundsException" (6 : Nat)) ∈ WT := wt_2 (i := 97) rfl rfl
theorem k338 : (Jvm.Cond.castable "java/lang/IndexOutOfBoundsException" "java/lang/IndexOutOfBoundsException") ∈ lw_tbl := wn_2 (i := 98) rfl
theorem k339 : (Jvm.Cond.selects "java/lang/IndexOutOfBoundsException" ({ cls := "java/lang/Throwable", name := "fillInStackTrace", desc := "(I)Ljava/lang/Throwable;" } : Jvm.MethodName) ({ cls := "java/lang/Throwable", name := "fillInStackTrace", desc := "(I)Ljava/lang/Throwable;" } : Jvm.MethodName)) ∈ WT := wt_2 (i := 99) rfl rfl
theorem k340 : (Jvm.Cond.lays "java/lang/IndexOutOfBoundsException" "java/lang/Throwable" "cause" "Ljava/lang/Throwable;") ∈ WT := wt_2 (i := 100) rfl rfl
theorem k341 : (Jvm.Cond.lays "java/lang/IndexOutOfBoundsException" "java/lang/Throwable" "stackTrace" "[Ljava/lang/StackTraceElement;") ∈ WT := wt_2 (i := 101) rfl rfl
theorem k342 : (Jvm.Cond.lays "java/lang/IndexOutOfBoundsException" "java/lang/Throwable" "suppressedExceptions" "Ljava/util/List;") ∈ WT := wt_2 (i := 102) rfl rfl
theorem k343 : (Jvm.Cond.lays "java/lang/IndexOutOfBoundsException" "java/lang/Throwable" "detailMessage" "Ljava/lang/String;") ∈ WT := wt_2 (i := 103) rfl rfl
theorem k344 : (Jvm.Cond.lays "java/lang/IndexOutOfBoundsException" "java/lang/Throwable" "backtrace" "Ljava/lang/Object;") ∈ WT := wt_2 (i := 104) rfl rfl
theorem k345 : (Jvm.Cond.methodLink "TwoTimesTable" (96 : Nat) ({ cls := "java/lang/IndexOutOfBoundsException", name := "<init>", desc := "()V" } : Jvm.MethodName)) ∈ WT := wt_2 (i := 105) rfl rfl
theorem k346 : (Jvm.Cond.instanceMethod ({ cls := "java/lang/IndexOutOfBoundsException", name := "<init>", desc := "()V" } : Jvm.MethodName)) ∈ WT := wt_2 (i := 106) rfl rfl
theorem k347 : (Jvm.Cond.code ({ cls := "java/lang/IndexOutOfBoundsException", name := "<init>", desc := "()V" } : Jvm.MethodName) prog_9_method_1_code (1 : Nat) (Option.none : Option Jvm.ClassFile.FieldType)) ∈ WT := wt_2 (i := 107) rfl rfl
theorem k348 : (Jvm.Cond.methodLink "java/lang/IndexOutOfBoundsException" (1 : Nat) ({ cls := "java/lang/RuntimeException", name := "<init>", desc := "()V" } : Jvm.MethodName)) ∈ WT := wt_2 (i := 108) rfl rfl
theorem k349 : (Jvm.Cond.lays "java/lang/IndexOutOfBoundsException" "java/lang/Throwable" "depth" "I") ∈ WT := wt_2 (i := 109) rfl rfl
theorem k350 : (Jvm.Cond.superclass "java/lang/IndexOutOfBoundsException" "java/lang/RuntimeException") ∈ WT := wt_2 (i := 110) rfl rfl
theorem k351 : (Jvm.Cond.methodLink "TwoTimesTable" (97 : Nat) ({ cls := "TwoTimesTable$States", name := "runStart", desc := "(II)I" } : Jvm.MethodName)) ∈ WT := wt_2 (i := 111) rfl rfl
theorem k352 : (Jvm.Cond.instanceMethod ({ cls := "TwoTimesTable$States", name := "runStart", desc := "(II)I" } : Jvm.MethodName)) ∈ WT := wt_2 (i := 112) rfl rfl
theorem k353 : (Jvm.Cond.selects "TwoTimesTable$States" ({ cls := "TwoTimesTable$States", name := "runStart", desc := "(II)I" } : Jvm.MethodName) ({ cls := "TwoTimesTable$States", name := "runStart", desc := "(II)I" } : Jvm.MethodName)) ∈ WT := wt_2 (i := 113) rfl rfl
theorem k354 : (Jvm.Cond.code ({ cls := "TwoTimesTable$States", name := "runStart", desc := "(II)I" } : Jvm.MethodName) prog_2_method_16_code (5 : Nat) (Option.some Jvm.ClassFile.FieldType.int)) ∈ WT := wt_2 (i := 114) rfl rfl
theorem k355 : (Jvm.Cond.methodLink "TwoTimesTable" (100 : Nat) ({ cls := "TwoTimesTable$States", name := "runEnd", desc := "(II)I" } : Jvm.MethodName)) ∈ WT := wt_2 (i := 115) rfl rfl
theorem k356 : (Jvm.Cond.methodLink "TwoTimesTableLaw" (113 : Nat) ({ cls := "TwoTimesTableLaw", name := "row", desc := "(LTwoTimesTable;II[J)I" } : Jvm.MethodName)) ∈ WT := wt_2 (i := 116) rfl rfl
theorem k357 : (Jvm.Cond.static ({ cls := "TwoTimesTableLaw", name := "row", desc := "(LTwoTimesTable;II[J)I" } : Jvm.MethodName)) ∈ WT := wt_2 (i := 117) rfl rfl
theorem k358 : (Jvm.Cond.codeWith ({ cls := "TwoTimesTableLaw", name := "row", desc := "(LTwoTimesTable;II[J)I" } : Jvm.MethodName) method_10_code (5 : Nat) (Option.some Jvm.ClassFile.FieldType.int) [((0 : Nat), (10 : Nat), (13 : Nat), (19 : Nat)), ((0 : Nat), (10 : Nat), (17 : Nat), (42 : Nat))]) ∈ WT := wt_2 (i := 118) rfl rfl
theorem k359 : (Jvm.Cond.methodLink "TwoTimesTableLaw" (44 : Nat) ({ cls := "TwoTimesTable", name := "row", desc := "(II)I" } : Jvm.MethodName)) ∈ WT := wt_2 (i := 119) rfl rfl
theorem k360 : (Jvm.Cond.instanceMethod ({ cls := "TwoTimesTable", name := "row", desc := "(II)I" } : Jvm.MethodName)) ∈ WT := wt_2 (i := 120) rfl rfl
theorem k361 : (Jvm.Cond.selects "TwoTimesTable" ({ cls := "TwoTimesTable", name := "row", desc := "(II)I" } : Jvm.MethodName) ({ cls := "TwoTimesTable", name := "row", desc := "(II)I" } : Jvm.MethodName)) ∈ WT := wt_2 (i := 121) rfl rfl
theorem k362 : (Jvm.Cond.code ({ cls := "TwoTimesTable", name := "row", desc := "(II)I" } : Jvm.MethodName) prog_1_method_14_code (3 : Nat) (Option.some Jvm.ClassFile.FieldType.int)) ∈ WT := wt_2 (i := 122) rfl rfl
theorem k363 : (Jvm.Cond.methodLink "TwoTimesTable" (107 : Nat) ({ cls := "TwoTimesTable$States", name := "rowPart", desc := "(II)I" } : Jvm.MethodName)) ∈ WT := wt_2 (i := 123) rfl rfl
theorem k364 : (Jvm.Cond.instanceMethod ({ cls := "TwoTimesTable$States", name := "rowPart", desc := "(II)I" } : Jvm.MethodName)) ∈ WT := wt_2 (i := 124) rfl rfl
theorem k365 : (Jvm.Cond.selects "TwoTimesTable$States" ({ cls := "TwoTimesTable$States", name := "rowPart", desc := "(II)I" } : Jvm.MethodName) ({ cls := "TwoTimesTable$States", name := "rowPart", desc := "(II)I" } : Jvm.MethodName)) ∈ WT := wt_2 (i := 125) rfl rfl
theorem k366 : (Jvm.Cond.code ({ cls := "TwoTimesTable$States", name := "rowPart", desc := "(II)I" } : Jvm.MethodName) prog_2_method_22_code (7 : Nat) (Option.some Jvm.ClassFile.FieldType.int)) ∈ WT := wt_2 (i := 126) rfl rfl
theorem k367 : (Jvm.Cond.methodLink "TwoTimesTable$States" (88 : Nat) ({ cls := "TwoTimesTable$States", name := "rowStart", desc := "(II)I" } : Jvm.MethodName)) ∈ WT := wt_2 (i := 127) rfl rfl
theorem k368 : (Jvm.Cond.privateMethod ({ cls := "TwoTimesTable$States", name := "rowStart", desc := "(II)I" } : Jvm.MethodName)) ∈ lw_tbl := wn_2 (i := 128) rfl
theorem k369 : (Jvm.Cond.instanceMethod ({ cls := "TwoTimesTable$States", name := "rowStart", desc := "(II)I" } : Jvm.MethodName)) ∈ WT := wt_2 (i := 129) rfl rfl
theorem k370 : (Jvm.Cond.code ({ cls := "TwoTimesTable$States", name := "rowStart", desc := "(II)I" } : Jvm.MethodName) prog_2_method_23_code (5 : Nat) (Option.some Jvm.ClassFile.FieldType.int)) ∈ WT := wt_2 (i := 130) rfl rfl
theorem k371 : (Jvm.Cond.methodLink "TwoTimesTable$States" (91 : Nat) ({ cls := "TwoTimesTable$States", name := "partOfRow", desc := "(IIII)I" } : Jvm.MethodName)) ∈ WT := wt_2 (i := 131) rfl rfl
theorem k372 : (Jvm.Cond.privateMethod ({ cls := "TwoTimesTable$States", name := "partOfRow", desc := "(IIII)I" } : Jvm.MethodName)) ∈ lw_tbl := wn_2 (i := 132) rfl
theorem k373 : (Jvm.Cond.instanceMethod ({ cls := "TwoTimesTable$States", name := "partOfRow", desc := "(IIII)I" } : Jvm.MethodName)) ∈ WT := wt_2 (i := 133) rfl rfl
theorem k374 : (Jvm.Cond.code ({ cls := "TwoTimesTable$States", name := "partOfRow", desc := "(IIII)I" } : Jvm.MethodName) prog_2_method_24_code (6 : Nat) (Option.some Jvm.ClassFile.FieldType.int)) ∈ WT := wt_2 (i := 134) rfl rfl
theorem k375 : (Jvm.Cond.methodLink "TwoTimesTable$States" (94 : Nat) ({ cls := "TwoTimesTable$States", name := "rowEnd", desc := "(III)I" } : Jvm.MethodName)) ∈ WT := wt_2 (i := 135) rfl rfl
theorem k376 : (Jvm.Cond.privateMethod ({ cls := "TwoTimesTable$States", name := "rowEnd", desc := "(III)I" } : Jvm.MethodName)) ∈ lw_tbl := wn_2 (i := 136) rfl
theorem k377 : (Jvm.Cond.instanceMethod ({ cls := "TwoTimesTable$States", name := "rowEnd", desc := "(III)I" } : Jvm.MethodName)) ∈ WT := wt_2 (i := 137) rfl rfl
theorem k378 : (Jvm.Cond.code ({ cls := "TwoTimesTable$States", name := "rowEnd", desc := "(III)I" } : Jvm.MethodName) prog_2_method_25_code (6 : Nat) (Option.some Jvm.ClassFile.FieldType.int)) ∈ WT := wt_2 (i := 138) rfl rfl
theorem k379 : (Jvm.Cond.methodLink "TwoTimesTableLaw" (116 : Nat) ({ cls := "TwoTimesTableLaw", name := "changes", desc := "(LTwoTimesTable;II[J)I" } : Jvm.MethodName)) ∈ WT := wt_2 (i := 139) rfl rfl
theorem k380 : (Jvm.Cond.static ({ cls := "TwoTimesTableLaw", name := "changes", desc := "(LTwoTimesTable;II[J)I" } : Jvm.MethodName)) ∈ WT := wt_2 (i := 140) rfl rfl
theorem k381 : (Jvm.Cond.codeWith ({ cls := "TwoTimesTableLaw", name := "changes", desc := "(LTwoTimesTable;II[J)I" } : Jvm.MethodName) method_11_code (5 : Nat) (Option.some Jvm.ClassFile.FieldType.int) [((0 : Nat), (10 : Nat), (13 : Nat), (19 : Nat))]) ∈ WT := wt_2 (i := 141) rfl rfl
theorem k382 : (Jvm.Cond.methodLink "TwoTimesTableLaw" (47 : Nat) ({ cls := "TwoTimesTable", name := "changes", desc := "(II)I" } : Jvm.MethodName)) ∈ WT := wt_2 (i := 142) rfl rfl
theorem k383 : (Jvm.Cond.instanceMethod ({ cls := "TwoTimesTable", name := "changes", desc := "(II)I" } : Jvm.MethodName)) ∈ WT := wt_2 (i := 143) rfl rfl
theorem k384 : (Jvm.Cond.selects "TwoTimesTable" ({ cls := "TwoTimesTable", name := "changes", desc := "(II)I" } : Jvm.MethodName) ({ cls := "TwoTimesTable", name := "changes", desc := "(II)I" } : Jvm.MethodName)) ∈ WT := wt_2 (i := 144) rfl rfl
theorem k385 : (Jvm.Cond.code ({ cls := "TwoTimesTable", name := "changes", desc := "(II)I" } : Jvm.MethodName) prog_1_method_15_code (5 : Nat) (Option.some Jvm.ClassFile.FieldType.int)) ∈ WT := wt_2 (i := 145) rfl rfl
theorem k386 : (Jvm.Cond.methodLink "TwoTimesTable" (110 : Nat) ({ cls := "TwoTimesTable$States", name := "differ", desc := "(III)Z" } : Jvm.MethodName)) ∈ WT := wt_2 (i := 146) rfl rfl
theorem k387 : (Jvm.Cond.instanceMethod ({ cls := "TwoTimesTable$States", name := "differ", desc := "(III)Z" } : Jvm.MethodName)) ∈ WT := wt_2 (i := 147) rfl rfl
theorem k388 : (Jvm.Cond.selects "TwoTimesTable$States" ({ cls := "TwoTimesTable$States", name := "differ", desc := "(III)Z" } : Jvm.MethodName) ({ cls := "TwoTimesTable$States", name := "differ", desc := "(III)Z" } : Jvm.MethodName)) ∈ WT := wt_2 (i := 148) rfl rfl
theorem k389 : (Jvm.Cond.code ({ cls := "TwoTimesTable$States", name := "differ", desc := "(III)Z" } : Jvm.MethodName) prog_2_method_11_code (5 : Nat) (Option.some Jvm.ClassFile.FieldType.boolean)) ∈ WT := wt_2 (i := 149) rfl rfl
theorem k390 : (Jvm.Cond.methodLink "TwoTimesTableLaw" (119 : Nat) ({ cls := "TwoTimesTableLaw", name := "relation", desc := "(LTwoTimesTable;IIII[J)I" } : Jvm.MethodName)) ∈ WT := wt_2 (i := 150) rfl rfl
theorem k391 : (Jvm.Cond.static ({ cls := "TwoTimesTableLaw", name := "relation", desc := "(LTwoTimesTable;IIII[J)I" } : Jvm.MethodName)) ∈ WT := wt_2 (i := 151) rfl rfl
theorem k392 : (Jvm.Cond.codeWith ({ cls := "TwoTimesTableLaw", name := "relation", desc := "(LTwoTimesTable;IIII[J)I" } : Jvm.MethodName) method_12_code (7 : Nat) (Option.some Jvm.ClassFile.FieldType.int) [((0 : Nat), (14 : Nat), (17 : Nat), (19 : Nat))]) ∈ WT := wt_2 (i := 152) rfl rfl
theorem k393 : (Jvm.Cond.methodLink "TwoTimesTableLaw" (50 : Nat) ({ cls := "TwoTimesTable", name := "relation", desc := "(IIII)I" } : Jvm.MethodName)) ∈ WT := wt_2 (i := 153) rfl rfl
theorem k394 : (Jvm.Cond.instanceMethod ({ cls := "TwoTimesTable", name := "relation", desc := "(IIII)I" } : Jvm.MethodName)) ∈ WT := wt_2 (i := 154) rfl rfl
theorem k395 : (Jvm.Cond.selects "TwoTimesTable" ({ cls := "TwoTimesTable", name := "relation", desc := "(IIII)I" } : Jvm.MethodName) ({ cls := "TwoTimesTable", name := "relation", desc := "(IIII)I" } : Jvm.MethodName)) ∈ WT := wt_2 (i := 155) rfl rfl
theorem k396 : (Jvm.Cond.code ({ cls := "TwoTimesTable", name := "relation", desc := "(IIII)I" } : Jvm.MethodName) prog_1_method_16_code (5 : Nat) (Option.some Jvm.ClassFile.FieldType.int)) ∈ WT := wt_2 (i := 156) rfl rfl
theorem k397 : (Jvm.Cond.methodLink "TwoTimesTable" (114 : Nat) ({ cls := "TwoTimesTable", name := "relationOf", desc := "(IIII)I" } : Jvm.MethodName)) ∈ WT := wt_2 (i := 157) rfl rfl
theorem k398 : (Jvm.Cond.static ({ cls := "TwoTimesTable", name := "relationOf", desc := "(IIII)I" } : Jvm.MethodName)) ∈ WT := wt_2 (i := 158) rfl rfl
theorem k399 : (Jvm.Cond.code ({ cls := "TwoTimesTable", name := "relationOf", desc := "(IIII)I" } : Jvm.MethodName) prog_1_method_24_code (5 : Nat) (Option.some Jvm.ClassFile.FieldType.int)) ∈ WT := wt_2 (i := 159) rfl rfl
theorem k400 : (Jvm.Cond.methodLink "TwoTimesTable" (124 : Nat) ({ cls := "TwoTimesTable", name := "forwardRelation", desc := "(IIII)I" } : Jvm.MethodName)) ∈ WT := wt_2 (i := 160) rfl rfl
theorem k401 : (Jvm.Cond.static ({ cls := "TwoTimesTable", name := "forwardRelation", desc := "(IIII)I" } : Jvm.MethodName)) ∈ WT := wt_2 (i := 161) rfl rfl
theorem k402 : (Jvm.Cond.code ({ cls := "TwoTimesTable", name := "forwardRelation", desc := "(IIII)I" } : Jvm.MethodName) prog_1_method_25_code (4 : Nat) (Option.some Jvm.ClassFile.FieldType.int)) ∈ WT := wt_2 (i := 162) rfl rfl
theorem k403 : (Jvm.Cond.methodLink "TwoTimesTableLaw" (122 : Nat) ({ cls := "TwoTimesTableLaw", name := "join", desc := "(LTwoTimesTable;IIII[J)I" } : Jvm.MethodName)) ∈ WT := wt_2 (i := 163) rfl rfl
theorem k404 : (Jvm.Cond.static ({ cls := "TwoTimesTableLaw", name := "join", desc := "(LTwoTimesTable;IIII[J)I" } : Jvm.MethodName)) ∈ WT := wt_2 (i := 164) rfl rfl
theorem k405 : (Jvm.Cond.codeWith ({ cls := "TwoTimesTableLaw", name := "join", desc := "(LTwoTimesTable;IIII[J)I" } : Jvm.MethodName) method_13_code (7 : Nat) (Option.some Jvm.ClassFile.FieldType.int) [((0 : Nat), (14 : Nat), (17 : Nat), (19 : Nat))]) ∈ WT := wt_2 (i := 165) rfl rfl
theorem k406 : (Jvm.Cond.methodLink "TwoTimesTableLaw" (53 : Nat) ({ cls := "TwoTimesTable", name := "join", desc := "(IIII)I" } : Jvm.MethodName)) ∈ WT := wt_2 (i := 166) rfl rfl
theorem k407 : (Jvm.Cond.instanceMethod ({ cls := "TwoTimesTable", name := "join", desc := "(IIII)I" } : Jvm.MethodName)) ∈ WT := wt_2 (i := 167) rfl rfl
theorem k408 : (Jvm.Cond.selects "TwoTimesTable" ({ cls := "TwoTimesTable", name := "join", desc := "(IIII)I" } : Jvm.MethodName) ({ cls := "TwoTimesTable", name := "join", desc := "(IIII)I" } : Jvm.MethodName)) ∈ WT := wt_2 (i := 168) rfl rfl
theorem k409 : (Jvm.Cond.code ({ cls := "TwoTimesTable", name := "join", desc := "(IIII)I" } : Jvm.MethodName) prog_1_method_17_code (8 : Nat) (Option.some Jvm.ClassFile.FieldType.int)) ∈ WT := wt_2 (i := 169) rfl rfl
theorem k410 : (Jvm.Cond.methodLink "TwoTimesTable" (118 : Nat) ({ cls := "TwoTimesTable$States", name := "startsRun", desc := "(II)Z" } : Jvm.MethodName)) ∈ WT := wt_2 (i := 170) rfl rfl
theorem k411 : (Jvm.Cond.methodLink "TwoTimesTable" (121 : Nat) ({ cls := "TwoTimesTable$States", name := "countRelated", desc := "(IIII)I" } : Jvm.MethodName)) ∈ WT := wt_2 (i := 171) rfl rfl
theorem k412 : (Jvm.Cond.instanceMethod ({ cls := "TwoTimesTable$States", name := "countRelated", desc := "(IIII)I" } : Jvm.MethodName)) ∈ WT := wt_2 (i := 172) rfl rfl
theorem k413 : (Jvm.Cond.selects "TwoTimesTable$States" ({ cls := "TwoTimesTable$States", name := "countRelated", desc := "(IIII)I" } : Jvm.MethodName) ({ cls := "TwoTimesTable$States", name := "countRelated", desc := "(IIII)I" } : Jvm.MethodName)) ∈ WT := wt_2 (i := 173) rfl rfl
theorem k414 : (Jvm.Cond.code ({ cls := "TwoTimesTable$States", name := "countRelated", desc := "(IIII)I" } : Jvm.MethodName) prog_2_method_17_code (7 : Nat) (Option.some Jvm.ClassFile.FieldType.int)) ∈ WT := wt_2 (i := 174) rfl rfl
theorem k415 : (Jvm.Cond.methodLinkNest "TwoTimesTable$States" (77 : Nat) ({ cls := "TwoTimesTable", name := "relationOf", desc := "(IIII)I" } : Jvm.MethodName) "TwoTimesTable") ∈ lw_tbl := wn_2 (i := 175) rfl
theorem k416 : (Jvm.Cond.classLink "TwoTimesTableLaw" (57 : Nat) "TwoTimesTableModel") ∈ WT := wt_2 (i := 176) rfl rfl
theorem k417 : (Jvm.Cond.instantiable "TwoTimesTableModel" (10 : Nat)) ∈ WT := wt_2 (i := 177) rfl rfl
theorem k418 : (Jvm.Cond.methodLink "TwoTimesTableLaw" (59 : Nat) ({ cls := "TwoTimesTableModel", name := "<init>", desc := "()V" } : Jvm.MethodName)) ∈ WT := wt_2 (i := 178) rfl rfl
theorem k419 : (Jvm.Cond.instanceMethod ({ cls := "TwoTimesTableModel", name := "<init>", desc := "()V" } : Jvm.MethodName)) ∈ WT := wt_2 (i := 179) rfl rfl
theorem k420 : (Jvm.Cond.code ({ cls := "TwoTimesTableModel", name := "<init>", desc := "()V" } : Jvm.MethodName) prog_5_method_1_code (1 : Nat) (Option.none : Option Jvm.ClassFile.FieldType)) ∈ WT := wt_2 (i := 180) rfl rfl
theorem k421 : (Jvm.Cond.methodLink "TwoTimesTableModel" (1 : Nat) ({ cls := "java/lang/Object", name := "<init>", desc := "()V" } : Jvm.MethodName)) ∈ WT := wt_2 (i := 181) rfl rfl
theorem k422 : (Jvm.Cond.fieldLink "TwoTimesTableModel" (33 : Nat) "TwoTimesTableModel" "clock" "I") ∈ WT := wt_2 (i := 182) rfl rfl
theorem k423 : (Jvm.Cond.fieldLink "TwoTimesTableModel" (7 : Nat) "TwoTimesTableModel" "there" "[Z") ∈ WT := wt_2 (i := 183) rfl rfl
theorem k424 : (Jvm.Cond.fieldLink "TwoTimesTableModel" (13 : Nat) "TwoTimesTableModel" "values" "[I") ∈ WT := wt_2 (i := 184) rfl rfl
theorem k425 : (Jvm.Cond.fieldLink "TwoTimesTableModel" (17 : Nat) "TwoTimesTableModel" "keptThere" "[Z") ∈ WT := wt_2 (i := 185) rfl rfl
theorem k426 : (Jvm.Cond.fieldLink "TwoTimesTableModel" (20 : Nat) "TwoTimesTableModel" "keptValues" "[I") ∈ WT := wt_2 (i := 186) rfl rfl
theorem k427 : (Jvm.Cond.fieldLink "TwoTimesTableModel" (94 : Nat) "TwoTimesTableModel" "waits" "I") ∈ WT := wt_2 (i := 187) rfl rfl
theorem k428 : (Jvm.Cond.fieldLink "TwoTimesTableModel" (23 : Nat) "TwoTimesTableModel" "waiting" "[I") ∈ WT := wt_2 (i := 188) rfl rfl
theorem k429 : (Jvm.Cond.fieldLink "TwoTimesTableModel" (26 : Nat) "TwoTimesTableModel" "failed" "I") ∈ WT := wt_2 (i := 189) rfl rfl
theorem k430 : (Jvm.Cond.fieldLink "TwoTimesTableModel" (30 : Nat) "TwoTimesTableModel" "thrown" "I") ∈ WT := wt_2 (i := 190) rfl rfl
theorem k431 : (Jvm.Cond.fieldLink "TwoTimesTableModel" (62 : Nat) "TwoTimesTableModel" "changed" "I") ∈ WT := wt_2 (i := 191) rfl rfl
theorem k432 : (Jvm.Cond.lays "TwoTimesTableModel" "TwoTimesTableModel" "clock" "I") ∈ WT := wt_2 (i := 192) rfl rfl
theorem k433 : (Jvm.Cond.soleField "TwoTimesTableModel" "clock") ∈ WT := wt_2 (i := 193) rfl rfl
theorem k434 : (Jvm.Cond.laysFinal "TwoTimesTableModel" "TwoTimesTableModel" "there" "[Z") ∈ WT := wt_2 (i := 194) rfl rfl
theorem k435 : (Jvm.Cond.soleField "TwoTimesTableModel" "there") ∈ WT := wt_2 (i := 195) rfl rfl
theorem k436 : (Jvm.Cond.laysFinal "TwoTimesTableModel" "TwoTimesTableModel" "values" "[I") ∈ WT := wt_2 (i := 196) rfl rfl
theorem k437 : (Jvm.Cond.soleField "TwoTimesTableModel" "values") ∈ WT := wt_2 (i := 197) rfl rfl
theorem k438 : (Jvm.Cond.laysFinal "TwoTimesTableModel" "TwoTimesTableModel" "keptThere" "[Z") ∈ WT := wt_2 (i := 198) rfl rfl
theorem k439 : (Jvm.Cond.soleField "TwoTimesTableModel" "keptThere") ∈ WT := wt_2 (i := 199) rfl rfl
theorem k440 : (Jvm.Cond.laysFinal "TwoTimesTableModel" "TwoTimesTableModel" "keptValues" "[I") ∈ WT := wt_2 (i := 200) rfl rfl
theorem k441 : (Jvm.Cond.soleField "TwoTimesTableModel" "keptValues") ∈ WT := wt_2 (i := 201) rfl rfl
theorem k442 : (Jvm.Cond.lays "TwoTimesTableModel" "TwoTimesTableModel" "waits" "I") ∈ WT := wt_2 (i := 202) rfl rfl
theorem k443 : (Jvm.Cond.soleField "TwoTimesTableModel" "waits") ∈ WT := wt_2 (i := 203) rfl rfl
theorem k444 : (Jvm.Cond.laysFinal "TwoTimesTableModel" "TwoTimesTableModel" "waiting" "[I") ∈ WT := wt_2 (i := 204) rfl rfl
theorem k445 : (Jvm.Cond.soleField "TwoTimesTableModel" "waiting") ∈ WT := wt_2 (i := 205) rfl rfl
theorem k446 : (Jvm.Cond.lays "TwoTimesTableModel" "TwoTimesTableModel" "failed" "I") ∈ WT := wt_2 (i := 206) rfl rfl
theorem k447 : (Jvm.Cond.soleField "TwoTimesTableModel" "failed") ∈ WT := wt_2 (i := 207) rfl rfl
theorem k448 : (Jvm.Cond.lays "TwoTimesTableModel" "TwoTimesTableModel" "thrown" "I") ∈ WT := wt_2 (i := 208) rfl rfl
theorem k449 : (Jvm.Cond.soleField "TwoTimesTableModel" "thrown") ∈ WT := wt_2 (i := 209) rfl rfl
theorem k450 : (Jvm.Cond.lays "TwoTimesTableModel" "TwoTimesTableModel" "changed" "I") ∈ WT := wt_2 (i := 210) rfl rfl
theorem k451 : (Jvm.Cond.soleField "TwoTimesTableModel" "changed") ∈ WT := wt_2 (i := 211) rfl rfl
theorem k452 : (Jvm.Cond.superclass "TwoTimesTableModel" "java/lang/Object") ∈ WT := wt_2 (i := 212) rfl rfl
theorem k453 : (Jvm.Cond.arrayClass Jvm.ClassFile.FieldType.boolean) ∈ WT := wt_2 (i := 213) rfl rfl
theorem k454 : (Jvm.Cond.methodLink "TwoTimesTableLaw" (66 : Nat) ({ cls := "TwoTimesTableModel", name := "thrown", desc := "()I" } : Jvm.MethodName)) ∈ WT := wt_2 (i := 214) rfl rfl
theorem k455 : (Jvm.Cond.instanceMethod ({ cls := "TwoTimesTableModel", name := "thrown", desc := "()I" } : Jvm.MethodName)) ∈ WT := wt_2 (i := 215) rfl rfl
theorem k456 : (Jvm.Cond.selects "TwoTimesTableModel" ({ cls := "TwoTimesTableModel", name := "thrown", desc := "()I" } : Jvm.MethodName) ({ cls := "TwoTimesTableModel", name := "thrown", desc := "()I" } : Jvm.MethodName)) ∈ WT := wt_2 (i := 216) rfl rfl
theorem k457 : (Jvm.Cond.code ({ cls := "TwoTimesTableModel", name := "thrown", desc := "()I" } : Jvm.MethodName) prog_5_method_2_code (1 : Nat) (Option.some Jvm.ClassFile.FieldType.int)) ∈ WT := wt_2 (i := 217) rfl rfl
theorem k458 : (Jvm.Cond.methodLink "TwoTimesTableLaw" (65 : Nat) ({ cls := "TwoTimesTableModel", name := "tick", desc := "()I" } : Jvm.MethodName)) ∈ WT := wt_2 (i := 218) rfl rfl
theorem k459 : (Jvm.Cond.instanceMethod ({ cls := "TwoTimesTableModel", name := "tick", desc := "()I" } : Jvm.MethodName)) ∈ WT := wt_2 (i := 219) rfl rfl
theorem k460 : (Jvm.Cond.selects "TwoTimesTableModel" ({ cls := "TwoTimesTableModel", name := "tick", desc := "()I" } : Jvm.MethodName) ({ cls := "TwoTimesTableModel", name := "tick", desc := "()I" } : Jvm.MethodName)) ∈ WT := wt_2 (i := 220) rfl rfl
theorem k461 : (Jvm.Cond.code ({ cls := "TwoTimesTableModel", name := "tick", desc := "()I" } : Jvm.MethodName) prog_5_method_8_code (2 : Nat) (Option.some Jvm.ClassFile.FieldType.int)) ∈ WT := wt_2 (i := 221) rfl rfl
theorem k462 : (Jvm.Cond.methodLink "TwoTimesTableModel" (36 : Nat) ({ cls := "TwoTimesTableModel", name := "fail", desc := "(I)I" } : Jvm.MethodName)) ∈ WT := wt_2 (i := 222) rfl rfl
theorem k463 : (Jvm.Cond.privateMethod ({ cls := "TwoTimesTableModel", name := "fail", desc := "(I)I" } : Jvm.MethodName)) ∈ lw_tbl := wn_2 (i := 223) rfl
theorem k464 : (Jvm.Cond.instanceMethod ({ cls := "TwoTimesTableModel", name := "fail", desc := "(I)I" } : Jvm.MethodName)) ∈ WT := wt_2 (i := 224) rfl rfl
theorem k465 : (Jvm.Cond.code ({ cls := "TwoTimesTableModel", name := "fail", desc := "(I)I" } : Jvm.MethodName) prog_5_method_3_code (2 : Nat) (Option.some Jvm.ClassFile.FieldType.int)) ∈ WT := wt_2 (i := 225) rfl rfl
theorem k466 : (Jvm.Cond.methodLink "TwoTimesTableLaw" (72 : Nat) ({ cls := "TwoTimesTableModel", name := "clock", desc := "()I" } : Jvm.MethodName)) ∈ WT := wt_2 (i := 226) rfl rfl
theorem k467 : (Jvm.Cond.instanceMethod ({ cls := "TwoTimesTableModel", name := "clock", desc := "()I" } : Jvm.MethodName)) ∈ WT := wt_2 (i := 227) rfl rfl
theorem k468 : (Jvm.Cond.selects "TwoTimesTableModel" ({ cls := "TwoTimesTableModel", name := "clock", desc := "()I" } : Jvm.MethodName) ({ cls := "TwoTimesTableModel", name := "clock", desc := "()I" } : Jvm.MethodName)) ∈ WT := wt_2 (i := 228) rfl rfl
theorem k469 : (Jvm.Cond.code ({ cls := "TwoTimesTableModel", name := "clock", desc := "()I" } : Jvm.MethodName) prog_5_method_9_code (1 : Nat) (Option.some Jvm.ClassFile.FieldType.int)) ∈ WT := wt_2 (i := 229) rfl rfl
theorem k470 : (Jvm.Cond.methodLink "TwoTimesTableLaw" (76 : Nat) ({ cls := "TwoTimesTableModel", name := "state", desc := "(IIIII)I" } : Jvm.MethodName)) ∈ WT := wt_2 (i := 230) rfl rfl
theorem k471 : (Jvm.Cond.instanceMethod ({ cls := "TwoTimesTableModel", name := "state", desc := "(IIIII)I" } : Jvm.MethodName)) ∈ WT := wt_2 (i := 231) rfl rfl
theorem k472 : (Jvm.Cond.selects "TwoTimesTableModel" ({ cls := "TwoTimesTableModel", name := "state", desc := "(IIIII)I" } : Jvm.MethodName) ({ cls := "TwoTimesTableModel", name := "state", desc := "(IIIII)I" } : Jvm.MethodName)) ∈ WT := wt_2 (i := 232) rfl rfl
theorem k473 : (Jvm.Cond.code ({ cls := "TwoTimesTableModel", name := "state", desc := "(IIIII)I" } : Jvm.MethodName) prog_5_method_21_code (7 : Nat) (Option.some Jvm.ClassFile.FieldType.int)) ∈ WT := wt_2 (i := 233) rfl rfl
theorem k474 : (Jvm.Cond.methodLink "TwoTimesTableModel" (84 : Nat) ({ cls := "TwoTimesTableModel", name := "keep", desc := "()V" } : Jvm.MethodName)) ∈ WT := wt_2 (i := 234) rfl rfl
theorem k475 : (Jvm.Cond.privateMethod ({ cls := "TwoTimesTableModel", name := "keep", desc := "()V" } : Jvm.MethodName)) ∈ lw_tbl := wn_2 (i := 235) rfl
theorem k476 : (Jvm.Cond.instanceMethod ({ cls := "TwoTimesTableModel", name := "keep", desc := "()V" } : Jvm.MethodName)) ∈ WT := wt_2 (i := 236) rfl rfl
theorem k477 : (Jvm.Cond.code ({ cls := "TwoTimesTableModel", name := "keep", desc := "()V" } : Jvm.MethodName) prog_5_method_16_code (2 : Nat) (Option.none : Option Jvm.ClassFile.FieldType)) ∈ WT := wt_2 (i := 237) rfl rfl
theorem k478 : (Jvm.Cond.methodLink "TwoTimesTableModel" (87 : Nat) ({ cls := "TwoTimesTableModel", name := "perform", desc := "(IIIII)I" } : Jvm.MethodName)) ∈ WT := wt_2 (i := 238) rfl rfl
theorem k479 : (Jvm.Cond.privateMethod ({ cls := "TwoTimesTableModel", name := "perform", desc := "(IIIII)I" } : Jvm.MethodName)) ∈ lw_tbl := wn_2 (i := 239) rfl
theorem k480 : (Jvm.Cond.instanceMethod ({ cls := "TwoTimesTableModel", name := "perform", desc := "(IIIII)I" } : Jvm.MethodName)) ∈ WT := wt_3 (i := 0) rfl rfl
theorem k481 : (Jvm.Cond.code ({ cls := "TwoTimesTableModel", name := "perform", desc := "(IIIII)I" } : Jvm.MethodName) prog_5_method_20_code (8 : Nat) (Option.some Jvm.ClassFile.FieldType.int)) ∈ WT := wt_3 (i := 1) rfl rfl
theorem k482 : (Jvm.Cond.methodLink "TwoTimesTableModel" (65 : Nat) ({ cls := "TwoTimesTableModel", name := "isKey", desc := "(I)Z" } : Jvm.MethodName)) ∈ WT := wt_3 (i := 2) rfl rfl
theorem k483 : (Jvm.Cond.static ({ cls := "TwoTimesTableModel", name := "isKey", desc := "(I)Z" } : Jvm.MethodName)) ∈ WT := wt_3 (i := 3) rfl rfl
theorem k484 : (Jvm.Cond.code ({ cls := "TwoTimesTableModel", name := "isKey", desc := "(I)Z" } : Jvm.MethodName) prog_5_method_4_code (1 : Nat) (Option.some Jvm.ClassFile.FieldType.boolean)) ∈ WT := wt_3 (i := 4) rfl rfl
theorem k485 : (Jvm.Cond.methodLink "TwoTimesTableModel" (69 : Nat) ({ cls := "TwoTimesTableModel", name := "isPeriod", desc := "(II)Z" } : Jvm.MethodName)) ∈ WT := wt_3 (i := 5) rfl rfl
theorem k486 : (Jvm.Cond.static ({ cls := "TwoTimesTableModel", name := "isPeriod", desc := "(II)Z" } : Jvm.MethodName)) ∈ WT := wt_3 (i := 6) rfl rfl
theorem k487 : (Jvm.Cond.code ({ cls := "TwoTimesTableModel", name := "isPeriod", desc := "(II)Z" } : Jvm.MethodName) prog_5_method_5_code (2 : Nat) (Option.some Jvm.ClassFile.FieldType.boolean)) ∈ WT := wt_3 (i := 7) rfl rfl
theorem k488 : (Jvm.Cond.methodLink "TwoTimesTableModel" (73 : Nat) ({ cls := "TwoTimesTableModel", name := "heldIn", desc := "(III)I" } : Jvm.MethodName)) ∈ WT := wt_3 (i := 8) rfl rfl
theorem k489 : (Jvm.Cond.privateMethod ({ cls := "TwoTimesTableModel", name := "heldIn", desc := "(III)I" } : Jvm.MethodName)) ∈ lw_tbl := wn_3 (i := 9) rfl
theorem k490 : (Jvm.Cond.instanceMethod ({ cls := "TwoTimesTableModel", name := "heldIn", desc := "(III)I" } : Jvm.MethodName)) ∈ WT := wt_3 (i := 10) rfl rfl
theorem k491 : (Jvm.Cond.code ({ cls := "TwoTimesTableModel", name := "heldIn", desc := "(III)I" } : Jvm.MethodName) prog_5_method_18_code (6 : Nat) (Option.some Jvm.ClassFile.FieldType.int)) ∈ WT := wt_3 (i := 11) rfl rfl
theorem k492 : (Jvm.Cond.methodLink "TwoTimesTableModel" (40 : Nat) ({ cls := "TwoTimesTableModel", name := "place", desc := "(III)I" } : Jvm.MethodName)) ∈ WT := wt_3 (i := 12) rfl rfl
theorem k493 : (Jvm.Cond.static ({ cls := "TwoTimesTableModel", name := "place", desc := "(III)I" } : Jvm.MethodName)) ∈ WT := wt_3 (i := 13) rfl rfl
theorem k494 : (Jvm.Cond.code ({ cls := "TwoTimesTableModel", name := "place", desc := "(III)I" } : Jvm.MethodName) prog_5_method_7_code (3 : Nat) (Option.some Jvm.ClassFile.FieldType.int)) ∈ WT := wt_3 (i := 14) rfl rfl
theorem k495 : (Jvm.Cond.methodLink "TwoTimesTableModel" (76 : Nat) ({ cls := "TwoTimesTableModel", name := "change", desc := "(III)V" } : Jvm.MethodName)) ∈ WT := wt_3 (i := 15) rfl rfl
theorem k496 : (Jvm.Cond.privateMethod ({ cls := "TwoTimesTableModel", name := "change", desc := "(III)V" } : Jvm.MethodName)) ∈ lw_tbl := wn_3 (i := 16) rfl
theorem k497 : (Jvm.Cond.instanceMethod ({ cls := "TwoTimesTableModel", name := "change", desc := "(III)V" } : Jvm.MethodName)) ∈ WT := wt_3 (i := 17) rfl rfl
theorem k498 : (Jvm.Cond.code ({ cls := "TwoTimesTableModel", name := "change", desc := "(III)V" } : Jvm.MethodName) prog_5_method_19_code (8 : Nat) (Option.none : Option Jvm.ClassFile.FieldType)) ∈ WT := wt_3 (i := 18) rfl rfl
theorem k499 : (Jvm.Cond.methodLink "TwoTimesTableModel" (80 : Nat) ({ cls := "TwoTimesTableModel", name := "countRows", desc := "()I" } : Jvm.MethodName)) ∈ WT := wt_3 (i := 19) rfl rfl
theorem k500 : (Jvm.Cond.privateMethod ({ cls := "TwoTimesTableModel", name := "countRows", desc := "()I" } : Jvm.MethodName)) ∈ lw_tbl := wn_3 (i := 20) rfl
theorem k501 : (Jvm.Cond.instanceMethod ({ cls := "TwoTimesTableModel", name := "countRows", desc := "()I" } : Jvm.MethodName)) ∈ WT := wt_3 (i := 21) rfl rfl
theorem k502 : (Jvm.Cond.code ({ cls := "TwoTimesTableModel", name := "countRows", desc := "()I" } : Jvm.MethodName) prog_5_method_15_code (5 : Nat) (Option.some Jvm.ClassFile.FieldType.int)) ∈ WT := wt_3 (i := 22) rfl rfl
theorem k503 : (Jvm.Cond.methodLink "TwoTimesTableModel" (59 : Nat) ({ cls := "TwoTimesTableModel", name := "isRow", desc := "(III)Z" } : Jvm.MethodName)) ∈ WT := wt_3 (i := 23) rfl rfl
theorem k504 : (Jvm.Cond.privateMethod ({ cls := "TwoTimesTableModel", name := "isRow", desc := "(III)Z" } : Jvm.MethodName)) ∈ lw_tbl := wn_3 (i := 24) rfl
theorem k505 : (Jvm.Cond.instanceMethod ({ cls := "TwoTimesTableModel", name := "isRow", desc := "(III)Z" } : Jvm.MethodName)) ∈ WT := wt_3 (i := 25) rfl rfl
theorem k506 : (Jvm.Cond.code ({ cls := "TwoTimesTableModel", name := "isRow", desc := "(III)Z" } : Jvm.MethodName) prog_5_method_14_code (4 : Nat) (Option.some Jvm.ClassFile.FieldType.boolean)) ∈ WT := wt_3 (i := 26) rfl rfl
theorem k507 : (Jvm.Cond.methodLink "TwoTimesTableModel" (48 : Nat) ({ cls := "TwoTimesTableModel", name := "begins", desc := "(III)Z" } : Jvm.MethodName)) ∈ WT := wt_3 (i := 27) rfl rfl
theorem k508 : (Jvm.Cond.privateMethod ({ cls := "TwoTimesTableModel", name := "begins", desc := "(III)Z" } : Jvm.MethodName)) ∈ lw_tbl := wn_3 (i := 28) rfl
theorem k509 : (Jvm.Cond.instanceMethod ({ cls := "TwoTimesTableModel", name := "begins", desc := "(III)Z" } : Jvm.MethodName)) ∈ WT := wt_3 (i := 29) rfl rfl
theorem k510 : (Jvm.Cond.code ({ cls := "TwoTimesTableModel", name := "begins", desc := "(III)Z" } : Jvm.MethodName) prog_5_method_11_code (4 : Nat) (Option.some Jvm.ClassFile.FieldType.boolean)) ∈ WT := wt_3 (i := 30) rfl rfl
theorem k511 : (Jvm.Cond.methodLink "TwoTimesTableModel" (44 : Nat) ({ cls := "TwoTimesTableModel", name := "alike", desc := "(IIII)Z" } : Jvm.MethodName)) ∈ WT := wt_3 (i := 31) rfl rfl
theorem k512 : (Jvm.Cond.privateMethod ({ cls := "TwoTimesTableModel", name := "alike", desc := "(IIII)Z" } : Jvm.MethodName)) ∈ lw_tbl := wn_3 (i := 32) rfl
theorem k513 : (Jvm.Cond.instanceMethod ({ cls := "TwoTimesTableModel", name := "alike", desc := "(IIII)Z" } : Jvm.MethodName)) ∈ WT := wt_3 (i := 33) rfl rfl
theorem k514 : (Jvm.Cond.code ({ cls := "TwoTimesTableModel", name := "alike", desc := "(IIII)Z" } : Jvm.MethodName) prog_5_method_10_code (7 : Nat) (Option.some Jvm.ClassFile.FieldType.boolean)) ∈ WT := wt_3 (i := 34) rfl rfl
theorem k515 : (Jvm.Cond.methodLink "TwoTimesTableModel" (52 : Nat) ({ cls := "TwoTimesTableModel", name := "endOf", desc := "(III)I" } : Jvm.MethodName)) ∈ WT := wt_3 (i := 35) rfl rfl
theorem k516 : (Jvm.Cond.privateMethod ({ cls := "TwoTimesTableModel", name := "endOf", desc := "(III)I" } : Jvm.MethodName)) ∈ lw_tbl := wn_3 (i := 36) rfl
theorem k517 : (Jvm.Cond.instanceMethod ({ cls := "TwoTimesTableModel", name := "endOf", desc := "(III)I" } : Jvm.MethodName)) ∈ WT := wt_3 (i := 37) rfl rfl
theorem k518 : (Jvm.Cond.code ({ cls := "TwoTimesTableModel", name := "endOf", desc := "(III)I" } : Jvm.MethodName) prog_5_method_12_code (5 : Nat) (Option.some Jvm.ClassFile.FieldType.int)) ∈ WT := wt_3 (i := 38) rfl rfl
theorem k519 : (Jvm.Cond.methodLink "TwoTimesTableModel" (55 : Nat) ({ cls := "TwoTimesTableModel", name := "isRun", desc := "(IIIII)Z" } : Jvm.MethodName)) ∈ WT := wt_3 (i := 39) rfl rfl
theorem k520 : (Jvm.Cond.privateMethod ({ cls := "TwoTimesTableModel", name := "isRun", desc := "(IIIII)Z" } : Jvm.MethodName)) ∈ lw_tbl := wn_3 (i := 40) rfl
theorem k521 : (Jvm.Cond.instanceMethod ({ cls := "TwoTimesTableModel", name := "isRun", desc := "(IIIII)Z" } : Jvm.MethodName)) ∈ WT := wt_3 (i := 41) rfl rfl
theorem k522 : (Jvm.Cond.code ({ cls := "TwoTimesTableModel", name := "isRun", desc := "(IIIII)Z" } : Jvm.MethodName) prog_5_method_13_code (6 : Nat) (Option.some Jvm.ClassFile.FieldType.boolean)) ∈ WT := wt_3 (i := 42) rfl rfl
theorem k523 : (Jvm.Cond.methodLink "TwoTimesTableModel" (91 : Nat) ({ cls := "TwoTimesTableModel", name := "goBack", desc := "()V" } : Jvm.MethodName)) ∈ WT := wt_3 (i := 43) rfl rfl
theorem k524 : (Jvm.Cond.privateMethod ({ cls := "TwoTimesTableModel", name := "goBack", desc := "()V" } : Jvm.MethodName)) ∈ lw_tbl := wn_3 (i := 44) rfl
theorem k525 : (Jvm.Cond.instanceMethod ({ cls := "TwoTimesTableModel", name := "goBack", desc := "()V" } : Jvm.MethodName)) ∈ WT := wt_3 (i := 45) rfl rfl
theorem k526 : (Jvm.Cond.code ({ cls := "TwoTimesTableModel", name := "goBack", desc := "()V" } : Jvm.MethodName) prog_5_method_17_code (2 : Nat) (Option.none : Option Jvm.ClassFile.FieldType)) ∈ WT := wt_3 (i := 46) rfl rfl
theorem k527 : (Jvm.Cond.methodLink "TwoTimesTableLaw" (81 : Nat) ({ cls := "TwoTimesTableModel", name := "queue", desc := "(IIIII)Z" } : Jvm.MethodName)) ∈ WT := wt_3 (i := 47) rfl rfl
theorem k528 : (Jvm.Cond.instanceMethod ({ cls := "TwoTimesTableModel", name := "queue", desc := "(IIIII)Z" } : Jvm.MethodName)) ∈ WT := wt_3 (i := 48) rfl rfl
theorem k529 : (Jvm.Cond.selects "TwoTimesTableModel" ({ cls := "TwoTimesTableModel", name := "queue", desc := "(IIIII)Z" } : Jvm.MethodName) ({ cls := "TwoTimesTableModel", name := "queue", desc := "(IIIII)Z" } : Jvm.MethodName)) ∈ WT := wt_3 (i := 49) rfl rfl
theorem k530 : (Jvm.Cond.code ({ cls := "TwoTimesTableModel", name := "queue", desc := "(IIIII)Z" } : Jvm.MethodName) prog_5_method_22_code (6 : Nat) (Option.some Jvm.ClassFile.FieldType.boolean)) ∈ WT := wt_3 (i := 50) rfl rfl
theorem k531 : (Jvm.Cond.methodLink "TwoTimesTableLaw" (84 : Nat) ({ cls := "TwoTimesTableModel", name := "commit", desc := "()I" } : Jvm.MethodName)) ∈ WT := wt_3 (i := 51) rfl rfl
theorem k532 : (Jvm.Cond.instanceMethod ({ cls := "TwoTimesTableModel", name := "commit", desc := "()I" } : Jvm.MethodName)) ∈ WT := wt_3 (i := 52) rfl rfl
theorem k533 : (Jvm.Cond.selects "TwoTimesTableModel" ({ cls := "TwoTimesTableModel", name := "commit", desc := "()I" } : Jvm.MethodName) ({ cls := "TwoTimesTableModel", name := "commit", desc := "()I" } : Jvm.MethodName)) ∈ WT := wt_3 (i := 53) rfl rfl
theorem k534 : (Jvm.Cond.code ({ cls := "TwoTimesTableModel", name := "commit", desc := "()I" } : Jvm.MethodName) prog_5_method_23_code (5 : Nat) (Option.some Jvm.ClassFile.FieldType.int)) ∈ WT := wt_3 (i := 54) rfl rfl
theorem k535 : (Jvm.Cond.methodLink "TwoTimesTableLaw" (88 : Nat) ({ cls := "TwoTimesTableModel", name := "failed", desc := "()I" } : Jvm.MethodName)) ∈ WT := wt_3 (i := 55) rfl rfl
theorem k536 : (Jvm.Cond.instanceMethod ({ cls := "TwoTimesTableModel", name := "failed", desc := "()I" } : Jvm.MethodName)) ∈ WT := wt_3 (i := 56) rfl rfl
theorem k537 : (Jvm.Cond.selects "TwoTimesTableModel" ({ cls := "TwoTimesTableModel", name := "failed", desc := "()I" } : Jvm.MethodName) ({ cls := "TwoTimesTableModel", name := "failed", desc := "()I" } : Jvm.MethodName)) ∈ WT := wt_3 (i := 57) rfl rfl
theorem k538 : (Jvm.Cond.code ({ cls := "TwoTimesTableModel", name := "failed", desc := "()I" } : Jvm.MethodName) prog_5_method_24_code (1 : Nat) (Option.some Jvm.ClassFile.FieldType.int)) ∈ WT := wt_3 (i := 58) rfl rfl
theorem k539 : (Jvm.Cond.methodLink "TwoTimesTableLaw" (92 : Nat) ({ cls := "TwoTimesTableModel", name := "value", desc := "(III)I" } : Jvm.MethodName)) ∈ WT := wt_3 (i := 59) rfl rfl
theorem k540 : (Jvm.Cond.instanceMethod ({ cls := "TwoTimesTableModel", name := "value", desc := "(III)I" } : Jvm.MethodName)) ∈ WT := wt_3 (i := 60) rfl rfl
theorem k541 : (Jvm.Cond.selects "TwoTimesTableModel" ({ cls := "TwoTimesTableModel", name := "value", desc := "(III)I" } : Jvm.MethodName) ({ cls := "TwoTimesTableModel", name := "value", desc := "(III)I" } : Jvm.MethodName)) ∈ WT := wt_3 (i := 61) rfl rfl
theorem k542 : (Jvm.Cond.code ({ cls := "TwoTimesTableModel", name := "value", desc := "(III)I" } : Jvm.MethodName) prog_5_method_26_code (5 : Nat) (Option.some Jvm.ClassFile.FieldType.int)) ∈ WT := wt_3 (i := 62) rfl rfl
theorem k543 : (Jvm.Cond.methodLink "TwoTimesTableModel" (97 : Nat) ({ cls := "TwoTimesTableModel", name := "isDay", desc := "(I)Z" } : Jvm.MethodName)) ∈ WT := wt_3 (i := 63) rfl rfl
theorem k544 : (Jvm.Cond.static ({ cls := "TwoTimesTableModel", name := "isDay", desc := "(I)Z" } : Jvm.MethodName)) ∈ WT := wt_3 (i := 64) rfl rfl
theorem k545 : (Jvm.Cond.code ({ cls := "TwoTimesTableModel", name := "isDay", desc := "(I)Z" } : Jvm.MethodName) prog_5_method_25_code (1 : Nat) (Option.some Jvm.ClassFile.FieldType.boolean)) ∈ WT := wt_3 (i := 65) rfl rfl
theorem k546 : (Jvm.Cond.methodLink "TwoTimesTableModel" (100 : Nat) ({ cls := "TwoTimesTableModel", name := "isTime", desc := "(I)Z" } : Jvm.MethodName)) ∈ WT := wt_3 (i := 66) rfl rfl
theorem k547 : (Jvm.Cond.privateMethod ({ cls := "TwoTimesTableModel", name := "isTime", desc := "(I)Z" } : Jvm.MethodName)) ∈ lw_tbl := wn_3 (i := 67) rfl
theorem k548 : (Jvm.Cond.instanceMethod ({ cls := "TwoTimesTableModel", name := "isTime", desc := "(I)Z" } : Jvm.MethodName)) ∈ WT := wt_3 (i := 68) rfl rfl
theorem k549 : (Jvm.Cond.code ({ cls := "TwoTimesTableModel", name := "isTime", desc := "(I)Z" } : Jvm.MethodName) prog_5_method_6_code (2 : Nat) (Option.some Jvm.ClassFile.FieldType.boolean)) ∈ WT := wt_3 (i := 69) rfl rfl
theorem k550 : (Jvm.Cond.methodLink "TwoTimesTableLaw" (97 : Nat) ({ cls := "TwoTimesTableModel", name := "has", desc := "(III)Z" } : Jvm.MethodName)) ∈ WT := wt_3 (i := 70) rfl rfl
theorem k551 : (Jvm.Cond.instanceMethod ({ cls := "TwoTimesTableModel", name := "has", desc := "(III)Z" } : Jvm.MethodName)) ∈ WT := wt_3 (i := 71) rfl rfl
theorem k552 : (Jvm.Cond.selects "TwoTimesTableModel" ({ cls := "TwoTimesTableModel", name := "has", desc := "(III)Z" } : Jvm.MethodName) ({ cls := "TwoTimesTableModel", name := "has", desc := "(III)Z" } : Jvm.MethodName)) ∈ WT := wt_3 (i := 72) rfl rfl
theorem k553 : (Jvm.Cond.code ({ cls := "TwoTimesTableModel", name := "has", desc := "(III)Z" } : Jvm.MethodName) prog_5_method_27_code (4 : Nat) (Option.some Jvm.ClassFile.FieldType.boolean)) ∈ WT := wt_3 (i := 73) rfl rfl
theorem k554 : (Jvm.Cond.methodLink "TwoTimesTableLaw" (101 : Nat) ({ cls := "TwoTimesTableModel", name := "sum", desc := "(IIII)J" } : Jvm.MethodName)) ∈ WT := wt_3 (i := 74) rfl rfl
theorem k555 : (Jvm.Cond.instanceMethod ({ cls := "TwoTimesTableModel", name := "sum", desc := "(IIII)J" } : Jvm.MethodName)) ∈ WT := wt_3 (i := 75) rfl rfl
theorem k556 : (Jvm.Cond.selects "TwoTimesTableModel" ({ cls := "TwoTimesTableModel", name := "sum", desc := "(IIII)J" } : Jvm.MethodName) ({ cls := "TwoTimesTableModel", name := "sum", desc := "(IIII)J" } : Jvm.MethodName)) ∈ WT := wt_3 (i := 76) rfl rfl
theorem k557 : (Jvm.Cond.code ({ cls := "TwoTimesTableModel", name := "sum", desc := "(IIII)J" } : Jvm.MethodName) prog_5_method_28_code (8 : Nat) (Option.some Jvm.ClassFile.FieldType.long)) ∈ WT := wt_3 (i := 77) rfl rfl
theorem k558 : (Jvm.Cond.methodLink "TwoTimesTableLaw" (105 : Nat) ({ cls := "TwoTimesTableModel", name := "runs", desc := "(II)I" } : Jvm.MethodName)) ∈ WT := wt_3 (i := 78) rfl rfl
theorem k559 : (Jvm.Cond.instanceMethod ({ cls := "TwoTimesTableModel", name := "runs", desc := "(II)I" } : Jvm.MethodName)) ∈ WT := wt_3 (i := 79) rfl rfl
theorem k560 : (Jvm.Cond.selects "TwoTimesTableModel" ({ cls := "TwoTimesTableModel", name := "runs", desc := "(II)I" } : Jvm.MethodName) ({ cls := "TwoTimesTableModel", name := "runs", desc := "(II)I" } : Jvm.MethodName)) ∈ WT := wt_3 (i := 80) rfl rfl
theorem k561 : (Jvm.Cond.code ({ cls := "TwoTimesTableModel", name := "runs", desc := "(II)I" } : Jvm.MethodName) prog_5_method_29_code (5 : Nat) (Option.some Jvm.ClassFile.FieldType.int)) ∈ WT := wt_3 (i := 81) rfl rfl
theorem k562 : (Jvm.Cond.methodLink "TwoTimesTableLaw" (108 : Nat) ({ cls := "TwoTimesTableModel", name := "run", desc := "(IIII)I" } : Jvm.MethodName)) ∈ WT := wt_3 (i := 82) rfl rfl
theorem k563 : (Jvm.Cond.instanceMethod ({ cls := "TwoTimesTableModel", name := "run", desc := "(IIII)I" } : Jvm.MethodName)) ∈ WT := wt_3 (i := 83) rfl rfl
theorem k564 : (Jvm.Cond.selects "TwoTimesTableModel" ({ cls := "TwoTimesTableModel", name := "run", desc := "(IIII)I" } : Jvm.MethodName) ({ cls := "TwoTimesTableModel", name := "run", desc := "(IIII)I" } : Jvm.MethodName)) ∈ WT := wt_3 (i := 84) rfl rfl
theorem k565 : (Jvm.Cond.code ({ cls := "TwoTimesTableModel", name := "run", desc := "(IIII)I" } : Jvm.MethodName) prog_5_method_30_code (7 : Nat) (Option.some Jvm.ClassFile.FieldType.int)) ∈ WT := wt_3 (i := 85) rfl rfl
theorem k566 : (Jvm.Cond.methodLink "TwoTimesTableLaw" (112 : Nat) ({ cls := "TwoTimesTableModel", name := "rows", desc := "()I" } : Jvm.MethodName)) ∈ WT := wt_3 (i := 86) rfl rfl
theorem k567 : (Jvm.Cond.instanceMethod ({ cls := "TwoTimesTableModel", name := "rows", desc := "()I" } : Jvm.MethodName)) ∈ WT := wt_3 (i := 87) rfl rfl
theorem k568 : (Jvm.Cond.selects "TwoTimesTableModel" ({ cls := "TwoTimesTableModel", name := "rows", desc := "()I" } : Jvm.MethodName) ({ cls := "TwoTimesTableModel", name := "rows", desc := "()I" } : Jvm.MethodName)) ∈ WT := wt_3 (i := 88) rfl rfl
theorem k569 : (Jvm.Cond.code ({ cls := "TwoTimesTableModel", name := "rows", desc := "()I" } : Jvm.MethodName) prog_5_method_31_code (1 : Nat) (Option.some Jvm.ClassFile.FieldType.int)) ∈ WT := wt_3 (i := 89) rfl rfl
theorem k570 : (Jvm.Cond.methodLink "TwoTimesTableLaw" (115 : Nat) ({ cls := "TwoTimesTableModel", name := "row", desc := "(II)I" } : Jvm.MethodName)) ∈ WT := wt_3 (i := 90) rfl rfl
theorem k571 : (Jvm.Cond.instanceMethod ({ cls := "TwoTimesTableModel", name := "row", desc := "(II)I" } : Jvm.MethodName)) ∈ WT := wt_3 (i := 91) rfl rfl
theorem k572 : (Jvm.Cond.selects "TwoTimesTableModel" ({ cls := "TwoTimesTableModel", name := "row", desc := "(II)I" } : Jvm.MethodName) ({ cls := "TwoTimesTableModel", name := "row", desc := "(II)I" } : Jvm.MethodName)) ∈ WT := wt_3 (i := 92) rfl rfl
theorem k573 : (Jvm.Cond.code ({ cls := "TwoTimesTableModel", name := "row", desc := "(II)I" } : Jvm.MethodName) prog_5_method_33_code (7 : Nat) (Option.some Jvm.ClassFile.FieldType.int)) ∈ WT := wt_3 (i := 93) rfl rfl
theorem k574 : (Jvm.Cond.methodLink "TwoTimesTableModel" (103 : Nat) ({ cls := "TwoTimesTableModel", name := "endTime", desc := "(III)I" } : Jvm.MethodName)) ∈ WT := wt_3 (i := 94) rfl rfl
theorem k575 : (Jvm.Cond.privateMethod ({ cls := "TwoTimesTableModel", name := "endTime", desc := "(III)I" } : Jvm.MethodName)) ∈ lw_tbl := wn_3 (i := 95) rfl
theorem k576 : (Jvm.Cond.instanceMethod ({ cls := "TwoTimesTableModel", name := "endTime", desc := "(III)I" } : Jvm.MethodName)) ∈ WT := wt_3 (i := 96) rfl rfl
theorem k577 : (Jvm.Cond.code ({ cls := "TwoTimesTableModel", name := "endTime", desc := "(III)I" } : Jvm.MethodName) prog_5_method_32_code (7 : Nat) (Option.some Jvm.ClassFile.FieldType.int)) ∈ WT := wt_3 (i := 97) rfl rfl
theorem k578 : (Jvm.Cond.methodLink "TwoTimesTableLaw" (118 : Nat) ({ cls := "TwoTimesTableModel", name := "changes", desc := "(II)I" } : Jvm.MethodName)) ∈ WT := wt_3 (i := 98) rfl rfl
theorem k579 : (Jvm.Cond.instanceMethod ({ cls := "TwoTimesTableModel", name := "changes", desc := "(II)I" } : Jvm.MethodName)) ∈ WT := wt_3 (i := 99) rfl rfl
theorem k580 : (Jvm.Cond.selects "TwoTimesTableModel" ({ cls := "TwoTimesTableModel", name := "changes", desc := "(II)I" } : Jvm.MethodName) ({ cls := "TwoTimesTableModel", name := "changes", desc := "(II)I" } : Jvm.MethodName)) ∈ WT := wt_3 (i := 100) rfl rfl
theorem k581 : (Jvm.Cond.code ({ cls := "TwoTimesTableModel", name := "changes", desc := "(II)I" } : Jvm.MethodName) prog_5_method_34_code (7 : Nat) (Option.some Jvm.ClassFile.FieldType.int)) ∈ WT := wt_3 (i := 101) rfl rfl
theorem k582 : (Jvm.Cond.methodLink "TwoTimesTableLaw" (121 : Nat) ({ cls := "TwoTimesTableModel", name := "relation", desc := "(IIII)I" } : Jvm.MethodName)) ∈ WT := wt_3 (i := 102) rfl rfl
theorem k583 : (Jvm.Cond.instanceMethod ({ cls := "TwoTimesTableModel", name := "relation", desc := "(IIII)I" } : Jvm.MethodName)) ∈ WT := wt_3 (i := 103) rfl rfl
theorem k584 : (Jvm.Cond.selects "TwoTimesTableModel" ({ cls := "TwoTimesTableModel", name := "relation", desc := "(IIII)I" } : Jvm.MethodName) ({ cls := "TwoTimesTableModel", name := "relation", desc := "(IIII)I" } : Jvm.MethodName)) ∈ WT := wt_3 (i := 104) rfl rfl
theorem k585 : (Jvm.Cond.code ({ cls := "TwoTimesTableModel", name := "relation", desc := "(IIII)I" } : Jvm.MethodName) prog_5_method_37_code (5 : Nat) (Option.some Jvm.ClassFile.FieldType.int)) ∈ WT := wt_3 (i := 105) rfl rfl
theorem k586 : (Jvm.Cond.methodLink "TwoTimesTableModel" (110 : Nat) ({ cls := "TwoTimesTableModel", name := "lies", desc := "(IIII)I" } : Jvm.MethodName)) ∈ WT := wt_3 (i := 106) rfl rfl
theorem k587 : (Jvm.Cond.static ({ cls := "TwoTimesTableModel", name := "lies", desc := "(IIII)I" } : Jvm.MethodName)) ∈ WT := wt_3 (i := 107) rfl rfl
theorem k588 : (Jvm.Cond.code ({ cls := "TwoTimesTableModel", name := "lies", desc := "(IIII)I" } : Jvm.MethodName) prog_5_method_36_code (5 : Nat) (Option.some Jvm.ClassFile.FieldType.int)) ∈ WT := wt_3 (i := 108) rfl rfl
theorem k589 : (Jvm.Cond.methodLink "TwoTimesTableModel" (106 : Nat) ({ cls := "TwoTimesTableModel", name := "early", desc := "(IIII)I" } : Jvm.MethodName)) ∈ WT := wt_3 (i := 109) rfl rfl
theorem k590 : (Jvm.Cond.static ({ cls := "TwoTimesTableModel", name := "early", desc := "(IIII)I" } : Jvm.MethodName)) ∈ WT := wt_3 (i := 110) rfl rfl
theorem k591 : (Jvm.Cond.code ({ cls := "TwoTimesTableModel", name := "early", desc := "(IIII)I" } : Jvm.MethodName) prog_5_method_35_code (4 : Nat) (Option.some Jvm.ClassFile.FieldType.int)) ∈ WT := wt_3 (i := 111) rfl rfl
theorem k592 : (Jvm.Cond.methodLink "TwoTimesTableLaw" (124 : Nat) ({ cls := "TwoTimesTableModel", name := "join", desc := "(IIII)I" } : Jvm.MethodName)) ∈ WT := wt_3 (i := 112) rfl rfl
theorem k593 : (Jvm.Cond.instanceMethod ({ cls := "TwoTimesTableModel", name := "join", desc := "(IIII)I" } : Jvm.MethodName)) ∈ WT := wt_3 (i := 113) rfl rfl
theorem k594 : (Jvm.Cond.selects "TwoTimesTableModel" ({ cls := "TwoTimesTableModel", name := "join", desc := "(IIII)I" } : Jvm.MethodName) ({ cls := "TwoTimesTableModel", name := "join", desc := "(IIII)I" } : Jvm.MethodName)) ∈ WT := wt_3 (i := 114) rfl rfl
theorem k595 : (Jvm.Cond.code ({ cls := "TwoTimesTableModel", name := "join", desc := "(IIII)I" } : Jvm.MethodName) prog_5_method_38_code (9 : Nat) (Option.some Jvm.ClassFile.FieldType.int)) ∈ WT := wt_3 (i := 115) rfl rfl
theorem k596 : (Jvm.Cond.arrayClass Jvm.ClassFile.FieldType.long) ∈ WT := wt_3 (i := 116) rfl rfl
theorem k597 : (Jvm.Cond.sameMethod "java/lang/Throwable" "java/lang/Throwable" "fillInStackTrace" "(I)Ljava/lang/Throwable;") ∈ WT := wt_3 (i := 117) rfl rfl
theorem k598 : (Jvm.Cond.castable "TwoTimesTable" "java/lang/Object") ∈ lw_tbl := wn_3 (i := 118) rfl
theorem k599 : (Jvm.Cond.castable "TwoTimesTable$States" "java/lang/Object") ∈ lw_tbl := wn_3 (i := 119) rfl
theorem k600 : (Jvm.Cond.castable "TwoTimesTable$Waiting" "java/lang/Object") ∈ lw_tbl := wn_3 (i := 120) rfl
theorem k601 : (Jvm.Cond.castable "TwoTimesTableModel" "java/lang/Object") ∈ lw_tbl := wn_3 (i := 121) rfl
theorem k602 : (Jvm.Cond.castable "java/lang/IllegalStateException" "java/lang/Object") ∈ lw_tbl := wn_3 (i := 122) rfl
theorem k603 : (Jvm.Cond.castable "java/lang/IllegalArgumentException" "java/lang/Object") ∈ lw_tbl := wn_3 (i := 123) rfl
theorem k604 : (Jvm.Cond.castable "java/util/NoSuchElementException" "java/lang/Object") ∈ lw_tbl := wn_3 (i := 124) rfl
theorem k605 : (Jvm.Cond.castable "java/lang/IndexOutOfBoundsException" "java/lang/Object") ∈ lw_tbl := wn_3 (i := 125) rfl
theorem k606 : (Jvm.Cond.castable "java/lang/Throwable" "java/lang/Object") ∈ lw_tbl := wn_3 (i := 126) rfl
theorem s0 : (Cond.selects "TwoTimesTable" ⟨"TwoTimesTable", "isTime", "(I)Z"⟩ ⟨"TwoTimesTable", "isTime", "(I)Z"⟩) ∈ WT := wt_s (i := 0) rfl rfl
theorem s1 : (Cond.selects "java/lang/Throwable" ⟨"java/lang/Throwable", "fillInStackTrace", "(I)Ljava/lang/Throwable;"⟩ ⟨"java/lang/Throwable", "fillInStackTrace", "(I)Ljava/lang/Throwable;"⟩) ∈ WT := wt_s (i := 1) rfl rfl
theorem s2 : (Cond.selects "TwoTimesTable$States" ⟨"TwoTimesTable$States", "copyState", "(II)V"⟩ ⟨"TwoTimesTable$States", "copyState", "(II)V"⟩) ∈ WT := wt_s (i := 2) rfl rfl
theorem s3 : (Cond.selects "TwoTimesTable$States" ⟨"TwoTimesTable$States", "changeDay", "(IIII)Z"⟩ ⟨"TwoTimesTable$States", "changeDay", "(IIII)Z"⟩) ∈ WT := wt_s (i := 3) rfl rfl
theorem s4 : (Cond.selects "TwoTimesTable$States" ⟨"TwoTimesTable$States", "recountRows", "(I)V"⟩ ⟨"TwoTimesTable$States", "recountRows", "(I)V"⟩) ∈ WT := wt_s (i := 4) rfl rfl
theorem s5 : (Cond.selects "TwoTimesTable$States" ⟨"TwoTimesTable$States", "startsRow", "(II)Z"⟩ ⟨"TwoTimesTable$States", "startsRow", "(II)Z"⟩) ∈ WT := wt_s (i := 5) rfl rfl
theorem s6 : (Cond.selects "TwoTimesTable$States" ⟨"TwoTimesTable$States", "continuesRun", "(II)Z"⟩ ⟨"TwoTimesTable$States", "continuesRun", "(II)Z"⟩) ∈ WT := wt_s (i := 6) rfl rfl
theorem s7 : (Cond.selects "TwoTimesTable$States" ⟨"TwoTimesTable$States", "sharesRun", "(III)Z"⟩ ⟨"TwoTimesTable$States", "sharesRun", "(III)Z"⟩) ∈ WT := wt_s (i := 7) rfl rfl
theorem s8 : (Cond.selects "TwoTimesTable$States" ⟨"TwoTimesTable$States", "rowStart", "(II)I"⟩ ⟨"TwoTimesTable$States", "rowStart", "(II)I"⟩) ∈ WT := wt_s (i := 8) rfl rfl
theorem s9 : (Cond.selects "TwoTimesTable$States" ⟨"TwoTimesTable$States", "partOfRow", "(IIII)I"⟩ ⟨"TwoTimesTable$States", "partOfRow", "(IIII)I"⟩) ∈ WT := wt_s (i := 9) rfl rfl
theorem s10 : (Cond.selects "TwoTimesTable$States" ⟨"TwoTimesTable$States", "rowEnd", "(III)I"⟩ ⟨"TwoTimesTable$States", "rowEnd", "(III)I"⟩) ∈ WT := wt_s (i := 10) rfl rfl
theorem s11 : (Cond.selects "TwoTimesTableModel" ⟨"TwoTimesTableModel", "fail", "(I)I"⟩ ⟨"TwoTimesTableModel", "fail", "(I)I"⟩) ∈ WT := wt_s (i := 11) rfl rfl
theorem s12 : (Cond.selects "TwoTimesTableModel" ⟨"TwoTimesTableModel", "keep", "()V"⟩ ⟨"TwoTimesTableModel", "keep", "()V"⟩) ∈ WT := wt_s (i := 12) rfl rfl
theorem s13 : (Cond.selects "TwoTimesTableModel" ⟨"TwoTimesTableModel", "perform", "(IIIII)I"⟩ ⟨"TwoTimesTableModel", "perform", "(IIIII)I"⟩) ∈ WT := wt_s (i := 13) rfl rfl
theorem s14 : (Cond.selects "TwoTimesTableModel" ⟨"TwoTimesTableModel", "heldIn", "(III)I"⟩ ⟨"TwoTimesTableModel", "heldIn", "(III)I"⟩) ∈ WT := wt_s (i := 14) rfl rfl
theorem s15 : (Cond.selects "TwoTimesTableModel" ⟨"TwoTimesTableModel", "change", "(III)V"⟩ ⟨"TwoTimesTableModel", "change", "(III)V"⟩) ∈ WT := wt_s (i := 15) rfl rfl
theorem s16 : (Cond.selects "TwoTimesTableModel" ⟨"TwoTimesTableModel", "countRows", "()I"⟩ ⟨"TwoTimesTableModel", "countRows", "()I"⟩) ∈ WT := wt_s (i := 16) rfl rfl
theorem s17 : (Cond.selects "TwoTimesTableModel" ⟨"TwoTimesTableModel", "isRow", "(III)Z"⟩ ⟨"TwoTimesTableModel", "isRow", "(III)Z"⟩) ∈ WT := wt_s (i := 17) rfl rfl
theorem s18 : (Cond.selects "TwoTimesTableModel" ⟨"TwoTimesTableModel", "begins", "(III)Z"⟩ ⟨"TwoTimesTableModel", "begins", "(III)Z"⟩) ∈ WT := wt_s (i := 18) rfl rfl
theorem s19 : (Cond.selects "TwoTimesTableModel" ⟨"TwoTimesTableModel", "alike", "(IIII)Z"⟩ ⟨"TwoTimesTableModel", "alike", "(IIII)Z"⟩) ∈ WT := wt_s (i := 19) rfl rfl
theorem s20 : (Cond.selects "TwoTimesTableModel" ⟨"TwoTimesTableModel", "endOf", "(III)I"⟩ ⟨"TwoTimesTableModel", "endOf", "(III)I"⟩) ∈ WT := wt_s (i := 20) rfl rfl
theorem s21 : (Cond.selects "TwoTimesTableModel" ⟨"TwoTimesTableModel", "isRun", "(IIIII)Z"⟩ ⟨"TwoTimesTableModel", "isRun", "(IIIII)Z"⟩) ∈ WT := wt_s (i := 21) rfl rfl
theorem s22 : (Cond.selects "TwoTimesTableModel" ⟨"TwoTimesTableModel", "goBack", "()V"⟩ ⟨"TwoTimesTableModel", "goBack", "()V"⟩) ∈ WT := wt_s (i := 22) rfl rfl
theorem s23 : (Cond.selects "TwoTimesTableModel" ⟨"TwoTimesTableModel", "isTime", "(I)Z"⟩ ⟨"TwoTimesTableModel", "isTime", "(I)Z"⟩) ∈ WT := wt_s (i := 23) rfl rfl
theorem s24 : (Cond.selects "TwoTimesTableModel" ⟨"TwoTimesTableModel", "endTime", "(III)I"⟩ ⟨"TwoTimesTableModel", "endTime", "(III)I"⟩) ∈ WT := wt_s (i := 24) rfl rfl
end
section
theorem dX0_init_0 : decode cX0_init 0 = .ok (.aload_n 0, 1) := by decide +kernel
theorem dX0_init_1 : decode cX0_init 1 = .ok (.invokespecial 3, 3) := by decide +kernel
theorem dX0_init_4 : decode cX0_init 4 = .ok (.aload_n 0, 1) := by decide +kernel
theorem dX0_init_5 : decode cX0_init 5 = .ok (.sipush 5248, 3) := by decide +kernel
theorem dX0_init_8 : decode cX0_init 8 = .ok (.newarray .int, 2) := by decide +kernel
theorem dX0_init_10 : decode cX0_init 10 = .ok (.putfield 9, 3) := by decide +kernel
theorem dX0_init_13 : decode cX0_init 13 = .ok (.aload_n 0, 1) := by decide +kernel
theorem dX0_init_14 : decode cX0_init 14 = .ok (.sipush 164, 3) := by decide +kernel
theorem dX0_init_17 : decode cX0_init 17 = .ok (.newarray .int, 2) := by decide +kernel
theorem dX0_init_19 : decode cX0_init 19 = .ok (.putfield 15, 3) := by decide +kernel
theorem dX0_init_22 : decode cX0_init 22 = .ok (.aload_n 0, 1) := by decide +kernel
theorem dX0_init_23 : decode cX0_init 23 = .ok (.sipush 160, 3) := by decide +kernel
theorem dX0_init_26 : decode cX0_init 26 = .ok (.newarray .int, 2) := by decide +kernel
theorem dX0_init_28 : decode cX0_init 28 = .ok (.putfield 18, 3) := by decide +kernel
theorem dX0_init_31 : decode cX0_init 31 = .ok (.aload_n 0, 1) := by decide +kernel
theorem dX0_init_32 : decode cX0_init 32 = .ok (.iconst 0, 1) := by decide +kernel
theorem dX0_init_33 : decode cX0_init 33 = .ok (.putfield 21, 3) := by decide +kernel
theorem dX0_init_36 : decode cX0_init 36 = .ok (.return_, 1) := by decide +kernel
theorem dX0_goOn_0 : decode cX0_goOn 0 = .ok (.aload_n 0, 1) := by decide +kernel
theorem dX0_goOn_1 : decode cX0_goOn 1 = .ok (.aload_n 0, 1) := by decide +kernel
theorem dX0_goOn_2 : decode cX0_goOn 2 = .ok (.getfield 21, 3) := by decide +kernel
theorem dX0_goOn_5 : decode cX0_goOn 5 = .ok (.aload_n 0, 1) := by decide +kernel
theorem dX0_goOn_6 : decode cX0_goOn 6 = .ok (.getfield 21, 3) := by decide +kernel
theorem dX0_goOn_9 : decode cX0_goOn 9 = .ok (.iconst 1, 1) := by decide +kernel
theorem dX0_goOn_10 : decode cX0_goOn 10 = .ok (.iadd, 1) := by decide +kernel
theorem dX0_goOn_11 : decode cX0_goOn 11 = .ok (.invokevirtual 25, 3) := by decide +kernel
theorem dX0_goOn_14 : decode cX0_goOn 14 = .ok (.aload_n 0, 1) := by decide +kernel
theorem dX0_goOn_15 : decode cX0_goOn 15 = .ok (.dup, 1) := by decide +kernel
theorem dX0_goOn_16 : decode cX0_goOn 16 = .ok (.getfield 21, 3) := by decide +kernel
theorem dX0_goOn_19 : decode cX0_goOn 19 = .ok (.iconst 1, 1) := by decide +kernel
theorem dX0_goOn_20 : decode cX0_goOn 20 = .ok (.iadd, 1) := by decide +kernel
theorem dX0_goOn_21 : decode cX0_goOn 21 = .ok (.putfield 21, 3) := by decide +kernel
theorem dX0_goOn_24 : decode cX0_goOn 24 = .ok (.return_, 1) := by decide +kernel
theorem dX0_save_0 : decode cX0_save 0 = .ok (.aload_n 0, 1) := by decide +kernel
theorem dX0_save_1 : decode cX0_save 1 = .ok (.aload_n 0, 1) := by decide +kernel
theorem dX0_save_2 : decode cX0_save 2 = .ok (.getfield 21, 3) := by decide +kernel
theorem dX0_save_5 : decode cX0_save 5 = .ok (.bipush 40, 2) := by decide +kernel
theorem dX0_save_7 : decode cX0_save 7 = .ok (.invokevirtual 25, 3) := by decide +kernel
theorem dX0_save_10 : decode cX0_save 10 = .ok (.return_, 1) := by decide +kernel
theorem dX0_restore_0 : decode cX0_restore 0 = .ok (.aload_n 0, 1) := by decide +kernel
theorem dX0_restore_1 : decode cX0_restore 1 = .ok (.bipush 40, 2) := by decide +kernel
theorem dX0_restore_3 : decode cX0_restore 3 = .ok (.aload_n 0, 1) := by decide +kernel
theorem dX0_restore_4 : decode cX0_restore 4 = .ok (.getfield 21, 3) := by decide +kernel
theorem dX0_restore_7 : decode cX0_restore 7 = .ok (.invokevirtual 25, 3) := by decide +kernel
theorem dX0_restore_10 : decode cX0_restore 10 = .ok (.iconst 0, 1) := by decide +kernel
theorem dX0_restore_11 : decode cX0_restore 11 = .ok (.istore_n 1, 1) := by decide +kernel
theorem dX0_restore_12 : decode cX0_restore 12 = .ok (.iload_n 1, 1) := by decide +kernel
theorem dX0_restore_13 : decode cX0_restore 13 = .ok (.iconst 4, 1) := by decide +kernel
theorem dX0_restore_14 : decode cX0_restore 14 = .ok (.if_icmp .ge 14, 3) := by decide +kernel
theorem dX0_restore_17 : decode cX0_restore 17 = .ok (.aload_n 0, 1) := by decide +kernel
theorem dX0_restore_18 : decode cX0_restore 18 = .ok (.iload_n 1, 1) := by decide +kernel
theorem dX0_restore_19 : decode cX0_restore 19 = .ok (.invokevirtual 29, 3) := by decide +kernel
theorem dX0_restore_22 : decode cX0_restore 22 = .ok (.iinc 1 1, 3) := by decide +kernel
theorem dX0_restore_25 : decode cX0_restore 25 = .ok (.goto (-13), 3) := by decide +kernel
theorem dX0_restore_28 : decode cX0_restore 28 = .ok (.return_, 1) := by decide +kernel
theorem dX0_copyState_0 : decode cX0_copyState 0 = .ok (.aload_n 0, 1) := by decide +kernel
theorem dX0_copyState_1 : decode cX0_copyState 1 = .ok (.getfield 9, 3) := by decide +kernel
theorem dX0_copyState_4 : decode cX0_copyState 4 = .ok (.iload_n 1, 1) := by decide +kernel
theorem dX0_copyState_5 : decode cX0_copyState 5 = .ok (.iconst 4, 1) := by decide +kernel
theorem dX0_copyState_6 : decode cX0_copyState 6 = .ok (.imul, 1) := by decide +kernel
theorem dX0_copyState_7 : decode cX0_copyState 7 = .ok (.bipush 32, 2) := by decide +kernel
theorem dX0_copyState_9 : decode cX0_copyState 9 = .ok (.imul, 1) := by decide +kernel
theorem dX0_copyState_10 : decode cX0_copyState 10 = .ok (.aload_n 0, 1) := by decide +kernel
theorem dX0_copyState_11 : decode cX0_copyState 11 = .ok (.getfield 9, 3) := by decide +kernel
theorem dX0_copyState_14 : decode cX0_copyState 14 = .ok (.iload_n 2, 1) := by decide +kernel
theorem dX0_copyState_15 : decode cX0_copyState 15 = .ok (.iconst 4, 1) := by decide +kernel
theorem dX0_copyState_16 : decode cX0_copyState 16 = .ok (.imul, 1) := by decide +kernel
theorem dX0_copyState_17 : decode cX0_copyState 17 = .ok (.bipush 32, 2) := by decide +kernel
theorem dX0_copyState_19 : decode cX0_copyState 19 = .ok (.imul, 1) := by decide +kernel
theorem dX0_copyState_20 : decode cX0_copyState 20 = .ok (.sipush 128, 3) := by decide +kernel
theorem dX0_copyState_23 : decode cX0_copyState 23 = .ok (.invokestatic 33, 3) := by decide +kernel
theorem dX0_copyState_26 : decode cX0_copyState 26 = .ok (.aload_n 0, 1) := by decide +kernel
theorem dX0_copyState_27 : decode cX0_copyState 27 = .ok (.getfield 15, 3) := by decide +kernel
theorem dX0_copyState_30 : decode cX0_copyState 30 = .ok (.iload_n 1, 1) := by decide +kernel
theorem dX0_copyState_31 : decode cX0_copyState 31 = .ok (.iconst 4, 1) := by decide +kernel
theorem dX0_copyState_32 : decode cX0_copyState 32 = .ok (.imul, 1) := by decide +kernel
theorem dX0_copyState_33 : decode cX0_copyState 33 = .ok (.aload_n 0, 1) := by decide +kernel
theorem dX0_copyState_34 : decode cX0_copyState 34 = .ok (.getfield 15, 3) := by decide +kernel
theorem dX0_copyState_37 : decode cX0_copyState 37 = .ok (.iload_n 2, 1) := by decide +kernel
theorem dX0_copyState_38 : decode cX0_copyState 38 = .ok (.iconst 4, 1) := by decide +kernel
theorem dX0_copyState_39 : decode cX0_copyState 39 = .ok (.imul, 1) := by decide +kernel
theorem dX0_copyState_40 : decode cX0_copyState 40 = .ok (.iconst 4, 1) := by decide +kernel
theorem dX0_copyState_41 : decode cX0_copyState 41 = .ok (.invokestatic 33, 3) := by decide +kernel
theorem dX0_copyState_44 : decode cX0_copyState 44 = .ok (.return_, 1) := by decide +kernel
theorem dX0_perform_0 : decode cX0_perform 0 = .ok (.iload_n 1, 1) := by decide +kernel
theorem dX0_perform_1 : decode cX0_perform 1 = .ok (.ifCond .lt 25, 3) := by decide +kernel
theorem dX0_perform_4 : decode cX0_perform 4 = .ok (.iload_n 1, 1) := by decide +kernel
theorem dX0_perform_5 : decode cX0_perform 5 = .ok (.iconst 4, 1) := by decide +kernel
theorem dX0_perform_6 : decode cX0_perform 6 = .ok (.if_icmp .gt 20, 3) := by decide +kernel
theorem dX0_perform_9 : decode cX0_perform 9 = .ok (.iload_n 2, 1) := by decide +kernel
theorem dX0_perform_10 : decode cX0_perform 10 = .ok (.invokestatic 39, 3) := by decide +kernel
theorem dX0_perform_13 : decode cX0_perform 13 = .ok (.ifCond .eq 13, 3) := by decide +kernel
theorem dX0_perform_16 : decode cX0_perform 16 = .ok (.iload 4, 2) := by decide +kernel
theorem dX0_perform_18 : decode cX0_perform 18 = .ok (.iload 5, 2) := by decide +kernel
theorem dX0_perform_20 : decode cX0_perform 20 = .ok (.invokestatic 43, 3) := by decide +kernel
theorem dX0_perform_23 : decode cX0_perform 23 = .ok (.ifCond .ne 5, 3) := by decide +kernel
theorem dX0_perform_26 : decode cX0_perform 26 = .ok (.iconst (-1), 1) := by decide +kernel
theorem dX0_perform_27 : decode cX0_perform 27 = .ok (.ireturn, 1) := by decide +kernel
theorem dX0_perform_28 : decode cX0_perform 28 = .ok (.aload_n 0, 1) := by decide +kernel
theorem dX0_perform_29 : decode cX0_perform 29 = .ok (.getfield 21, 3) := by decide +kernel
theorem dX0_perform_32 : decode cX0_perform 32 = .ok (.iload_n 2, 1) := by decide +kernel
theorem dX0_perform_33 : decode cX0_perform 33 = .ok (.invokestatic 47, 3) := by decide +kernel
theorem dX0_perform_36 : decode cX0_perform 36 = .ok (.istore 6, 2) := by decide +kernel
theorem dX0_perform_38 : decode cX0_perform 38 = .ok (.aload_n 0, 1) := by decide +kernel
theorem dX0_perform_39 : decode cX0_perform 39 = .ok (.getfield 15, 3) := by decide +kernel
theorem dX0_perform_42 : decode cX0_perform 42 = .ok (.iload 6, 2) := by decide +kernel
theorem dX0_perform_44 : decode cX0_perform 44 = .ok (.iaload, 1) := by decide +kernel
theorem dX0_perform_45 : decode cX0_perform 45 = .ok (.iload 4, 2) := by decide +kernel
theorem dX0_perform_47 : decode cX0_perform 47 = .ok (.iload 5, 2) := by decide +kernel
theorem dX0_perform_49 : decode cX0_perform 49 = .ok (.invokestatic 51, 3) := by decide +kernel
theorem dX0_perform_52 : decode cX0_perform 52 = .ok (.iand, 1) := by decide +kernel
theorem dX0_perform_53 : decode cX0_perform 53 = .ok (.ifCond .eq 7, 3) := by decide +kernel
theorem dX0_perform_56 : decode cX0_perform 56 = .ok (.iconst 1, 1) := by decide +kernel
theorem dX0_perform_57 : decode cX0_perform 57 = .ok (.goto 4, 3) := by decide +kernel
theorem dX0_perform_60 : decode cX0_perform 60 = .ok (.iconst 0, 1) := by decide +kernel
theorem dX0_perform_61 : decode cX0_perform 61 = .ok (.istore 7, 2) := by decide +kernel
theorem dX0_perform_63 : decode cX0_perform 63 = .ok (.iload_n 1, 1) := by decide +kernel
theorem dX0_perform_64 : decode cX0_perform 64 = .ok (.iconst 1, 1) := by decide +kernel
theorem dX0_perform_65 : decode cX0_perform 65 = .ok (.if_icmp .le 11, 3) := by decide +kernel
theorem dX0_perform_68 : decode cX0_perform 68 = .ok (.iload 7, 2) := by decide +kernel
theorem dX0_perform_70 : decode cX0_perform 70 = .ok (.ifCond .ne 6, 3) := by decide +kernel
theorem dX0_perform_73 : decode cX0_perform 73 = .ok (.bipush (-2), 2) := by decide +kernel
theorem dX0_perform_75 : decode cX0_perform 75 = .ok (.ireturn, 1) := by decide +kernel
theorem dX0_perform_76 : decode cX0_perform 76 = .ok (.iload_n 1, 1) := by decide +kernel
theorem dX0_perform_77 : decode cX0_perform 77 = .ok (.iconst 1, 1) := by decide +kernel
theorem dX0_perform_78 : decode cX0_perform 78 = .ok (.if_icmp .ne 11, 3) := by decide +kernel
theorem dX0_perform_81 : decode cX0_perform 81 = .ok (.iload 7, 2) := by decide +kernel
theorem dX0_perform_83 : decode cX0_perform 83 = .ok (.ifCond .eq 6, 3) := by decide +kernel
theorem dX0_perform_86 : decode cX0_perform 86 = .ok (.bipush (-3), 2) := by decide +kernel
theorem dX0_perform_88 : decode cX0_perform 88 = .ok (.ireturn, 1) := by decide +kernel
theorem dX0_perform_89 : decode cX0_perform 89 = .ok (.iconst 0, 1) := by decide +kernel
theorem dX0_perform_90 : decode cX0_perform 90 = .ok (.istore 8, 2) := by decide +kernel
theorem dX0_perform_92 : decode cX0_perform 92 = .ok (.iload 4, 2) := by decide +kernel
theorem dX0_perform_94 : decode cX0_perform 94 = .ok (.istore 9, 2) := by decide +kernel
theorem dX0_perform_96 : decode cX0_perform 96 = .ok (.iload 9, 2) := by decide +kernel
theorem dX0_perform_98 : decode cX0_perform 98 = .ok (.iload 5, 2) := by decide +kernel
theorem dX0_perform_100 : decode cX0_perform 100 = .ok (.if_icmp .ge 25, 3) := by decide +kernel
theorem dX0_perform_103 : decode cX0_perform 103 = .ok (.aload_n 0, 1) := by decide +kernel
theorem dX0_perform_104 : decode cX0_perform 104 = .ok (.iload_n 1, 1) := by decide +kernel
theorem dX0_perform_105 : decode cX0_perform 105 = .ok (.iload 6, 2) := by decide +kernel
theorem dX0_perform_107 : decode cX0_perform 107 = .ok (.iload 9, 2) := by decide +kernel
theorem dX0_perform_109 : decode cX0_perform 109 = .ok (.iload_n 3, 1) := by decide +kernel
theorem dX0_perform_110 : decode cX0_perform 110 = .ok (.invokevirtual 54, 3) := by decide +kernel
theorem dX0_perform_113 : decode cX0_perform 113 = .ok (.ifCond .eq 6, 3) := by decide +kernel
theorem dX0_perform_116 : decode cX0_perform 116 = .ok (.iinc 8 1, 3) := by decide +kernel
theorem dX0_perform_119 : decode cX0_perform 119 = .ok (.iinc 9 1, 3) := by decide +kernel
theorem dX0_perform_122 : decode cX0_perform 122 = .ok (.goto (-26), 3) := by decide +kernel
theorem dX0_perform_125 : decode cX0_perform 125 = .ok (.aload_n 0, 1) := by decide +kernel
theorem dX0_perform_126 : decode cX0_perform 126 = .ok (.iload_n 2, 1) := by decide +kernel
theorem dX0_perform_127 : decode cX0_perform 127 = .ok (.invokevirtual 29, 3) := by decide +kernel
theorem dX0_perform_130 : decode cX0_perform 130 = .ok (.aload_n 0, 1) := by decide +kernel
theorem dX0_perform_131 : decode cX0_perform 131 = .ok (.invokevirtual 58, 3) := by decide +kernel
theorem dX0_perform_134 : decode cX0_perform 134 = .ok (.sipush 150, 3) := by decide +kernel
theorem dX0_perform_137 : decode cX0_perform 137 = .ok (.if_icmp .le 8, 3) := by decide +kernel
theorem dX0_perform_140 : decode cX0_perform 140 = .ok (.bipush (-3), 2) := by decide +kernel
theorem dX0_perform_142 : decode cX0_perform 142 = .ok (.goto 5, 3) := by decide +kernel
theorem dX0_perform_145 : decode cX0_perform 145 = .ok (.iload 8, 2) := by decide +kernel
theorem dX0_perform_147 : decode cX0_perform 147 = .ok (.ireturn, 1) := by decide +kernel
theorem dX0_maskOf_0 : decode cX0_maskOf 0 = .ok (.iconst (-1), 1) := by decide +kernel
theorem dX0_maskOf_1 : decode cX0_maskOf 1 = .ok (.iload_n 0, 1) := by decide +kernel
theorem dX0_maskOf_2 : decode cX0_maskOf 2 = .ok (.ishl, 1) := by decide +kernel
theorem dX0_maskOf_3 : decode cX0_maskOf 3 = .ok (.iconst (-1), 1) := by decide +kernel
theorem dX0_maskOf_4 : decode cX0_maskOf 4 = .ok (.bipush 32, 2) := by decide +kernel
theorem dX0_maskOf_6 : decode cX0_maskOf 6 = .ok (.iload_n 1, 1) := by decide +kernel
theorem dX0_maskOf_7 : decode cX0_maskOf 7 = .ok (.isub, 1) := by decide +kernel
theorem dX0_maskOf_8 : decode cX0_maskOf 8 = .ok (.iushr, 1) := by decide +kernel
theorem dX0_maskOf_9 : decode cX0_maskOf 9 = .ok (.iand, 1) := by decide +kernel
theorem dX0_maskOf_10 : decode cX0_maskOf 10 = .ok (.ireturn, 1) := by decide +kernel
theorem dX0_changeDay_0 : decode cX0_changeDay 0 = .ok (.aload_n 0, 1) := by decide +kernel
theorem dX0_changeDay_1 : decode cX0_changeDay 1 = .ok (.iload_n 2, 1) := by decide +kernel
theorem dX0_changeDay_2 : decode cX0_changeDay 2 = .ok (.iload_n 3, 1) := by decide +kernel
theorem dX0_changeDay_3 : decode cX0_changeDay 3 = .ok (.invokevirtual 62, 3) := by decide +kernel
theorem dX0_changeDay_6 : decode cX0_changeDay 6 = .ok (.istore 5, 2) := by decide +kernel
theorem dX0_changeDay_8 : decode cX0_changeDay 8 = .ok (.iload 5, 2) := by decide +kernel
theorem dX0_changeDay_10 : decode cX0_changeDay 10 = .ok (.ifCond .ne 10, 3) := by decide +kernel
theorem dX0_changeDay_13 : decode cX0_changeDay 13 = .ok (.iload_n 1, 1) := by decide +kernel
theorem dX0_changeDay_14 : decode cX0_changeDay 14 = .ok (.iconst 1, 1) := by decide +kernel
theorem dX0_changeDay_15 : decode cX0_changeDay 15 = .ok (.if_icmp .le 5, 3) := by decide +kernel
theorem dX0_changeDay_18 : decode cX0_changeDay 18 = .ok (.iconst 0, 1) := by decide +kernel
theorem dX0_changeDay_19 : decode cX0_changeDay 19 = .ok (.ireturn, 1) := by decide +kernel
theorem dX0_changeDay_20 : decode cX0_changeDay 20 = .ok (.iload_n 1, 1) := by decide +kernel
theorem dX0_changeDay_21 : decode cX0_changeDay 21 = .ok (.iconst 4, 1) := by decide +kernel
theorem dX0_changeDay_22 : decode cX0_changeDay 22 = .ok (.if_icmp .ne 19, 3) := by decide +kernel
theorem dX0_changeDay_25 : decode cX0_changeDay 25 = .ok (.aload_n 0, 1) := by decide +kernel
theorem dX0_changeDay_26 : decode cX0_changeDay 26 = .ok (.getfield 15, 3) := by decide +kernel
theorem dX0_changeDay_29 : decode cX0_changeDay 29 = .ok (.iload_n 2, 1) := by decide +kernel
theorem dX0_changeDay_30 : decode cX0_changeDay 30 = .ok (.dup2, 1) := by decide +kernel
theorem dX0_changeDay_31 : decode cX0_changeDay 31 = .ok (.iaload, 1) := by decide +kernel
theorem dX0_changeDay_32 : decode cX0_changeDay 32 = .ok (.iconst 1, 1) := by decide +kernel
theorem dX0_changeDay_33 : decode cX0_changeDay 33 = .ok (.iload_n 3, 1) := by decide +kernel
theorem dX0_changeDay_34 : decode cX0_changeDay 34 = .ok (.ishl, 1) := by decide +kernel
theorem dX0_changeDay_35 : decode cX0_changeDay 35 = .ok (.iconst (-1), 1) := by decide +kernel
theorem dX0_changeDay_36 : decode cX0_changeDay 36 = .ok (.ixor, 1) := by decide +kernel
theorem dX0_changeDay_37 : decode cX0_changeDay 37 = .ok (.iand, 1) := by decide +kernel
theorem dX0_changeDay_38 : decode cX0_changeDay 38 = .ok (.iastore, 1) := by decide +kernel
theorem dX0_changeDay_39 : decode cX0_changeDay 39 = .ok (.iconst 1, 1) := by decide +kernel
theorem dX0_changeDay_40 : decode cX0_changeDay 40 = .ok (.ireturn, 1) := by decide +kernel
theorem dX0_changeDay_41 : decode cX0_changeDay 41 = .ok (.iload_n 2, 1) := by decide +kernel
theorem dX0_changeDay_42 : decode cX0_changeDay 42 = .ok (.bipush 32, 2) := by decide +kernel
theorem dX0_changeDay_44 : decode cX0_changeDay 44 = .ok (.imul, 1) := by decide +kernel
theorem dX0_changeDay_45 : decode cX0_changeDay 45 = .ok (.iload_n 3, 1) := by decide +kernel
theorem dX0_changeDay_46 : decode cX0_changeDay 46 = .ok (.iadd, 1) := by decide +kernel
theorem dX0_changeDay_47 : decode cX0_changeDay 47 = .ok (.istore 6, 2) := by decide +kernel
theorem dX0_changeDay_49 : decode cX0_changeDay 49 = .ok (.iload_n 1, 1) := by decide +kernel
theorem dX0_changeDay_50 : decode cX0_changeDay 50 = .ok (.iconst 3, 1) := by decide +kernel
theorem dX0_changeDay_51 : decode cX0_changeDay 51 = .ok (.if_icmp .ne 16, 3) := by decide +kernel
theorem dX0_changeDay_54 : decode cX0_changeDay 54 = .ok (.aload_n 0, 1) := by decide +kernel
theorem dX0_changeDay_55 : decode cX0_changeDay 55 = .ok (.getfield 9, 3) := by decide +kernel
theorem dX0_changeDay_58 : decode cX0_changeDay 58 = .ok (.iload 6, 2) := by decide +kernel
theorem dX0_changeDay_60 : decode cX0_changeDay 60 = .ok (.iaload, 1) := by decide +kernel
theorem dX0_changeDay_61 : decode cX0_changeDay 61 = .ok (.iload 4, 2) := by decide +kernel
theorem dX0_changeDay_63 : decode cX0_changeDay 63 = .ok (.iadd, 1) := by decide +kernel
theorem dX0_changeDay_64 : decode cX0_changeDay 64 = .ok (.goto 5, 3) := by decide +kernel
theorem dX0_changeDay_67 : decode cX0_changeDay 67 = .ok (.iload 4, 2) := by decide +kernel
theorem dX0_changeDay_69 : decode cX0_changeDay 69 = .ok (.istore 7, 2) := by decide +kernel
theorem dX0_changeDay_71 : decode cX0_changeDay 71 = .ok (.iload 5, 2) := by decide +kernel
theorem dX0_changeDay_73 : decode cX0_changeDay 73 = .ok (.ifCond .eq 15, 3) := by decide +kernel
theorem dX0_changeDay_76 : decode cX0_changeDay 76 = .ok (.aload_n 0, 1) := by decide +kernel
theorem dX0_changeDay_77 : decode cX0_changeDay 77 = .ok (.getfield 9, 3) := by decide +kernel
theorem dX0_changeDay_80 : decode cX0_changeDay 80 = .ok (.iload 6, 2) := by decide +kernel
theorem dX0_changeDay_82 : decode cX0_changeDay 82 = .ok (.iaload, 1) := by decide +kernel
theorem dX0_changeDay_83 : decode cX0_changeDay 83 = .ok (.iload 7, 2) := by decide +kernel
theorem dX0_changeDay_85 : decode cX0_changeDay 85 = .ok (.if_icmp .eq 7, 3) := by decide +kernel
theorem dX0_changeDay_88 : decode cX0_changeDay 88 = .ok (.iconst 1, 1) := by decide +kernel
theorem dX0_changeDay_89 : decode cX0_changeDay 89 = .ok (.goto 4, 3) := by decide +kernel
theorem dX0_changeDay_92 : decode cX0_changeDay 92 = .ok (.iconst 0, 1) := by decide +kernel
theorem dX0_changeDay_93 : decode cX0_changeDay 93 = .ok (.istore 8, 2) := by decide +kernel
theorem dX0_changeDay_95 : decode cX0_changeDay 95 = .ok (.aload_n 0, 1) := by decide +kernel
theorem dX0_changeDay_96 : decode cX0_changeDay 96 = .ok (.getfield 15, 3) := by decide +kernel
theorem dX0_changeDay_99 : decode cX0_changeDay 99 = .ok (.iload_n 2, 1) := by decide +kernel
theorem dX0_changeDay_100 : decode cX0_changeDay 100 = .ok (.dup2, 1) := by decide +kernel
theorem dX0_changeDay_101 : decode cX0_changeDay 101 = .ok (.iaload, 1) := by decide +kernel
theorem dX0_changeDay_102 : decode cX0_changeDay 102 = .ok (.iconst 1, 1) := by decide +kernel
theorem dX0_changeDay_103 : decode cX0_changeDay 103 = .ok (.iload_n 3, 1) := by decide +kernel
theorem dX0_changeDay_104 : decode cX0_changeDay 104 = .ok (.ishl, 1) := by decide +kernel
theorem dX0_changeDay_105 : decode cX0_changeDay 105 = .ok (.ior, 1) := by decide +kernel
theorem dX0_changeDay_106 : decode cX0_changeDay 106 = .ok (.iastore, 1) := by decide +kernel
theorem dX0_changeDay_107 : decode cX0_changeDay 107 = .ok (.aload_n 0, 1) := by decide +kernel
theorem dX0_changeDay_108 : decode cX0_changeDay 108 = .ok (.getfield 9, 3) := by decide +kernel
theorem dX0_changeDay_111 : decode cX0_changeDay 111 = .ok (.iload 6, 2) := by decide +kernel
theorem dX0_changeDay_113 : decode cX0_changeDay 113 = .ok (.iload 7, 2) := by decide +kernel
theorem dX0_changeDay_115 : decode cX0_changeDay 115 = .ok (.iastore, 1) := by decide +kernel
theorem dX0_changeDay_116 : decode cX0_changeDay 116 = .ok (.iload 8, 2) := by decide +kernel
theorem dX0_changeDay_118 : decode cX0_changeDay 118 = .ok (.ireturn, 1) := by decide +kernel
theorem dX0_isFilled_0 : decode cX0_isFilled 0 = .ok (.aload_n 0, 1) := by decide +kernel
theorem dX0_isFilled_1 : decode cX0_isFilled 1 = .ok (.getfield 15, 3) := by decide +kernel
theorem dX0_isFilled_4 : decode cX0_isFilled 4 = .ok (.iload_n 1, 1) := by decide +kernel
theorem dX0_isFilled_5 : decode cX0_isFilled 5 = .ok (.iaload, 1) := by decide +kernel
theorem dX0_isFilled_6 : decode cX0_isFilled 6 = .ok (.iload_n 2, 1) := by decide +kernel
theorem dX0_isFilled_7 : decode cX0_isFilled 7 = .ok (.iushr, 1) := by decide +kernel
theorem dX0_isFilled_8 : decode cX0_isFilled 8 = .ok (.iconst 1, 1) := by decide +kernel
theorem dX0_isFilled_9 : decode cX0_isFilled 9 = .ok (.iand, 1) := by decide +kernel
theorem dX0_isFilled_10 : decode cX0_isFilled 10 = .ok (.ifCond .eq 7, 3) := by decide +kernel
theorem dX0_isFilled_13 : decode cX0_isFilled 13 = .ok (.iconst 1, 1) := by decide +kernel
theorem dX0_isFilled_14 : decode cX0_isFilled 14 = .ok (.goto 4, 3) := by decide +kernel
theorem dX0_isFilled_17 : decode cX0_isFilled 17 = .ok (.iconst 0, 1) := by decide +kernel
theorem dX0_isFilled_18 : decode cX0_isFilled 18 = .ok (.ireturn, 1) := by decide +kernel
theorem dX0_valueOn_0 : decode cX0_valueOn 0 = .ok (.aload_n 0, 1) := by decide +kernel
theorem dX0_valueOn_1 : decode cX0_valueOn 1 = .ok (.getfield 9, 3) := by decide +kernel
theorem dX0_valueOn_4 : decode cX0_valueOn 4 = .ok (.iload_n 1, 1) := by decide +kernel
theorem dX0_valueOn_5 : decode cX0_valueOn 5 = .ok (.bipush 32, 2) := by decide +kernel
theorem dX0_valueOn_7 : decode cX0_valueOn 7 = .ok (.imul, 1) := by decide +kernel
theorem dX0_valueOn_8 : decode cX0_valueOn 8 = .ok (.iload_n 2, 1) := by decide +kernel
theorem dX0_valueOn_9 : decode cX0_valueOn 9 = .ok (.iadd, 1) := by decide +kernel
theorem dX0_valueOn_10 : decode cX0_valueOn 10 = .ok (.iaload, 1) := by decide +kernel
theorem dX0_valueOn_11 : decode cX0_valueOn 11 = .ok (.ireturn, 1) := by decide +kernel
theorem dX0_differ_0 : decode cX0_differ 0 = .ok (.aload_n 0, 1) := by decide +kernel
theorem dX0_differ_1 : decode cX0_differ 1 = .ok (.iload_n 1, 1) := by decide +kernel
theorem dX0_differ_2 : decode cX0_differ 2 = .ok (.iload_n 3, 1) := by decide +kernel
theorem dX0_differ_3 : decode cX0_differ 3 = .ok (.invokevirtual 62, 3) := by decide +kernel
theorem dX0_differ_6 : decode cX0_differ 6 = .ok (.istore 4, 2) := by decide +kernel
theorem dX0_differ_8 : decode cX0_differ 8 = .ok (.iload 4, 2) := by decide +kernel
theorem dX0_differ_10 : decode cX0_differ 10 = .ok (.aload_n 0, 1) := by decide +kernel
theorem dX0_differ_11 : decode cX0_differ 11 = .ok (.iload_n 2, 1) := by decide +kernel
theorem dX0_differ_12 : decode cX0_differ 12 = .ok (.iload_n 3, 1) := by decide +kernel
theorem dX0_differ_13 : decode cX0_differ 13 = .ok (.invokevirtual 62, 3) := by decide +kernel
theorem dX0_differ_16 : decode cX0_differ 16 = .ok (.if_icmp .eq 5, 3) := by decide +kernel
theorem dX0_differ_19 : decode cX0_differ 19 = .ok (.iconst 1, 1) := by decide +kernel
theorem dX0_differ_20 : decode cX0_differ 20 = .ok (.ireturn, 1) := by decide +kernel
theorem dX0_differ_21 : decode cX0_differ 21 = .ok (.iload 4, 2) := by decide +kernel
theorem dX0_differ_23 : decode cX0_differ 23 = .ok (.ifCond .eq 22, 3) := by decide +kernel
theorem dX0_differ_26 : decode cX0_differ 26 = .ok (.aload_n 0, 1) := by decide +kernel
theorem dX0_differ_27 : decode cX0_differ 27 = .ok (.iload_n 1, 1) := by decide +kernel
theorem dX0_differ_28 : decode cX0_differ 28 = .ok (.iload_n 3, 1) := by decide +kernel
theorem dX0_differ_29 : decode cX0_differ 29 = .ok (.invokevirtual 65, 3) := by decide +kernel
theorem dX0_differ_32 : decode cX0_differ 32 = .ok (.aload_n 0, 1) := by decide +kernel
theorem dX0_differ_33 : decode cX0_differ 33 = .ok (.iload_n 2, 1) := by decide +kernel
theorem dX0_differ_34 : decode cX0_differ 34 = .ok (.iload_n 3, 1) := by decide +kernel
theorem dX0_differ_35 : decode cX0_differ 35 = .ok (.invokevirtual 65, 3) := by decide +kernel
theorem dX0_differ_38 : decode cX0_differ 38 = .ok (.if_icmp .eq 7, 3) := by decide +kernel
theorem dX0_differ_41 : decode cX0_differ 41 = .ok (.iconst 1, 1) := by decide +kernel
theorem dX0_differ_42 : decode cX0_differ 42 = .ok (.goto 4, 3) := by decide +kernel
theorem dX0_differ_45 : decode cX0_differ 45 = .ok (.iconst 0, 1) := by decide +kernel
theorem dX0_differ_46 : decode cX0_differ 46 = .ok (.ireturn, 1) := by decide +kernel
theorem dX0_startsRun_0 : decode cX0_startsRun 0 = .ok (.aload_n 0, 1) := by decide +kernel
theorem dX0_startsRun_1 : decode cX0_startsRun 1 = .ok (.iload_n 1, 1) := by decide +kernel
theorem dX0_startsRun_2 : decode cX0_startsRun 2 = .ok (.iload_n 2, 1) := by decide +kernel
theorem dX0_startsRun_3 : decode cX0_startsRun 3 = .ok (.invokevirtual 62, 3) := by decide +kernel
theorem dX0_startsRun_6 : decode cX0_startsRun 6 = .ok (.ifCond .eq 16, 3) := by decide +kernel
theorem dX0_startsRun_9 : decode cX0_startsRun 9 = .ok (.aload_n 0, 1) := by decide +kernel
theorem dX0_startsRun_10 : decode cX0_startsRun 10 = .ok (.iload_n 1, 1) := by decide +kernel
theorem dX0_startsRun_11 : decode cX0_startsRun 11 = .ok (.iload_n 2, 1) := by decide +kernel
theorem dX0_startsRun_12 : decode cX0_startsRun 12 = .ok (.invokevirtual 68, 3) := by decide +kernel
theorem dX0_startsRun_15 : decode cX0_startsRun 15 = .ok (.ifCond .ne 7, 3) := by decide +kernel
theorem dX0_startsRun_18 : decode cX0_startsRun 18 = .ok (.iconst 1, 1) := by decide +kernel
theorem dX0_startsRun_19 : decode cX0_startsRun 19 = .ok (.goto 4, 3) := by decide +kernel
theorem dX0_startsRun_22 : decode cX0_startsRun 22 = .ok (.iconst 0, 1) := by decide +kernel
theorem dX0_startsRun_23 : decode cX0_startsRun 23 = .ok (.ireturn, 1) := by decide +kernel
theorem dX0_continuesRun_0 : decode cX0_continuesRun 0 = .ok (.iload_n 2, 1) := by decide +kernel
theorem dX0_continuesRun_1 : decode cX0_continuesRun 1 = .ok (.ifCond .eq 19, 3) := by decide +kernel
theorem dX0_continuesRun_4 : decode cX0_continuesRun 4 = .ok (.aload_n 0, 1) := by decide +kernel
theorem dX0_continuesRun_5 : decode cX0_continuesRun 5 = .ok (.getfield 15, 3) := by decide +kernel
theorem dX0_continuesRun_8 : decode cX0_continuesRun 8 = .ok (.iload_n 1, 1) := by decide +kernel
theorem dX0_continuesRun_9 : decode cX0_continuesRun 9 = .ok (.iaload, 1) := by decide +kernel
theorem dX0_continuesRun_10 : decode cX0_continuesRun 10 = .ok (.iload_n 2, 1) := by decide +kernel
theorem dX0_continuesRun_11 : decode cX0_continuesRun 11 = .ok (.iconst 1, 1) := by decide +kernel
theorem dX0_continuesRun_12 : decode cX0_continuesRun 12 = .ok (.isub, 1) := by decide +kernel
theorem dX0_continuesRun_13 : decode cX0_continuesRun 13 = .ok (.iushr, 1) := by decide +kernel
theorem dX0_continuesRun_14 : decode cX0_continuesRun 14 = .ok (.iconst 3, 1) := by decide +kernel
theorem dX0_continuesRun_15 : decode cX0_continuesRun 15 = .ok (.iand, 1) := by decide +kernel
theorem dX0_continuesRun_16 : decode cX0_continuesRun 16 = .ok (.iconst 3, 1) := by decide +kernel
theorem dX0_continuesRun_17 : decode cX0_continuesRun 17 = .ok (.if_icmp .eq 5, 3) := by decide +kernel
theorem dX0_continuesRun_20 : decode cX0_continuesRun 20 = .ok (.iconst 0, 1) := by decide +kernel
theorem dX0_continuesRun_21 : decode cX0_continuesRun 21 = .ok (.ireturn, 1) := by decide +kernel
theorem dX0_continuesRun_22 : decode cX0_continuesRun 22 = .ok (.iload_n 1, 1) := by decide +kernel
theorem dX0_continuesRun_23 : decode cX0_continuesRun 23 = .ok (.bipush 32, 2) := by decide +kernel
theorem dX0_continuesRun_25 : decode cX0_continuesRun 25 = .ok (.imul, 1) := by decide +kernel
theorem dX0_continuesRun_26 : decode cX0_continuesRun 26 = .ok (.iload_n 2, 1) := by decide +kernel
theorem dX0_continuesRun_27 : decode cX0_continuesRun 27 = .ok (.iadd, 1) := by decide +kernel
theorem dX0_continuesRun_28 : decode cX0_continuesRun 28 = .ok (.istore_n 3, 1) := by decide +kernel
theorem dX0_continuesRun_29 : decode cX0_continuesRun 29 = .ok (.aload_n 0, 1) := by decide +kernel
theorem dX0_continuesRun_30 : decode cX0_continuesRun 30 = .ok (.getfield 9, 3) := by decide +kernel
theorem dX0_continuesRun_33 : decode cX0_continuesRun 33 = .ok (.iload_n 3, 1) := by decide +kernel
theorem dX0_continuesRun_34 : decode cX0_continuesRun 34 = .ok (.iaload, 1) := by decide +kernel
theorem dX0_continuesRun_35 : decode cX0_continuesRun 35 = .ok (.aload_n 0, 1) := by decide +kernel
theorem dX0_continuesRun_36 : decode cX0_continuesRun 36 = .ok (.getfield 9, 3) := by decide +kernel
theorem dX0_continuesRun_39 : decode cX0_continuesRun 39 = .ok (.iload_n 3, 1) := by decide +kernel
theorem dX0_continuesRun_40 : decode cX0_continuesRun 40 = .ok (.iconst 1, 1) := by decide +kernel
theorem dX0_continuesRun_41 : decode cX0_continuesRun 41 = .ok (.isub, 1) := by decide +kernel
theorem dX0_continuesRun_42 : decode cX0_continuesRun 42 = .ok (.iaload, 1) := by decide +kernel
theorem dX0_continuesRun_43 : decode cX0_continuesRun 43 = .ok (.if_icmp .ne 7, 3) := by decide +kernel
theorem dX0_continuesRun_46 : decode cX0_continuesRun 46 = .ok (.iconst 1, 1) := by decide +kernel
theorem dX0_continuesRun_47 : decode cX0_continuesRun 47 = .ok (.goto 4, 3) := by decide +kernel
theorem dX0_continuesRun_50 : decode cX0_continuesRun 50 = .ok (.iconst 0, 1) := by decide +kernel
theorem dX0_continuesRun_51 : decode cX0_continuesRun 51 = .ok (.ireturn, 1) := by decide +kernel
theorem dX0_runEnd_0 : decode cX0_runEnd 0 = .ok (.iload_n 2, 1) := by decide +kernel
theorem dX0_runEnd_1 : decode cX0_runEnd 1 = .ok (.iconst 1, 1) := by decide +kernel
theorem dX0_runEnd_2 : decode cX0_runEnd 2 = .ok (.iadd, 1) := by decide +kernel
theorem dX0_runEnd_3 : decode cX0_runEnd 3 = .ok (.istore_n 3, 1) := by decide +kernel
theorem dX0_runEnd_4 : decode cX0_runEnd 4 = .ok (.iload_n 3, 1) := by decide +kernel
theorem dX0_runEnd_5 : decode cX0_runEnd 5 = .ok (.bipush 32, 2) := by decide +kernel
theorem dX0_runEnd_7 : decode cX0_runEnd 7 = .ok (.if_icmp .ge 18, 3) := by decide +kernel
theorem dX0_runEnd_10 : decode cX0_runEnd 10 = .ok (.aload_n 0, 1) := by decide +kernel
theorem dX0_runEnd_11 : decode cX0_runEnd 11 = .ok (.iload_n 1, 1) := by decide +kernel
theorem dX0_runEnd_12 : decode cX0_runEnd 12 = .ok (.iload_n 3, 1) := by decide +kernel
theorem dX0_runEnd_13 : decode cX0_runEnd 13 = .ok (.invokevirtual 68, 3) := by decide +kernel
theorem dX0_runEnd_16 : decode cX0_runEnd 16 = .ok (.ifCond .eq 9, 3) := by decide +kernel
theorem dX0_runEnd_19 : decode cX0_runEnd 19 = .ok (.iinc 3 1, 3) := by decide +kernel
theorem dX0_runEnd_22 : decode cX0_runEnd 22 = .ok (.goto (-18), 3) := by decide +kernel
theorem dX0_runEnd_25 : decode cX0_runEnd 25 = .ok (.iload_n 3, 1) := by decide +kernel
theorem dX0_runEnd_26 : decode cX0_runEnd 26 = .ok (.ireturn, 1) := by decide +kernel
theorem dX0_countRuns_0 : decode cX0_countRuns 0 = .ok (.iconst 0, 1) := by decide +kernel
theorem dX0_countRuns_1 : decode cX0_countRuns 1 = .ok (.istore_n 2, 1) := by decide +kernel
theorem dX0_countRuns_2 : decode cX0_countRuns 2 = .ok (.iconst 0, 1) := by decide +kernel
theorem dX0_countRuns_3 : decode cX0_countRuns 3 = .ok (.istore_n 3, 1) := by decide +kernel
theorem dX0_countRuns_4 : decode cX0_countRuns 4 = .ok (.iload_n 3, 1) := by decide +kernel
theorem dX0_countRuns_5 : decode cX0_countRuns 5 = .ok (.bipush 32, 2) := by decide +kernel
theorem dX0_countRuns_7 : decode cX0_countRuns 7 = .ok (.if_icmp .ge 21, 3) := by decide +kernel
theorem dX0_countRuns_10 : decode cX0_countRuns 10 = .ok (.aload_n 0, 1) := by decide +kernel
theorem dX0_countRuns_11 : decode cX0_countRuns 11 = .ok (.iload_n 1, 1) := by decide +kernel
theorem dX0_countRuns_12 : decode cX0_countRuns 12 = .ok (.iload_n 3, 1) := by decide +kernel
theorem dX0_countRuns_13 : decode cX0_countRuns 13 = .ok (.invokevirtual 71, 3) := by decide +kernel
theorem dX0_countRuns_16 : decode cX0_countRuns 16 = .ok (.ifCond .eq 6, 3) := by decide +kernel
theorem dX0_countRuns_19 : decode cX0_countRuns 19 = .ok (.iinc 2 1, 3) := by decide +kernel
theorem dX0_countRuns_22 : decode cX0_countRuns 22 = .ok (.iinc 3 1, 3) := by decide +kernel
theorem dX0_countRuns_25 : decode cX0_countRuns 25 = .ok (.goto (-21), 3) := by decide +kernel
theorem dX0_countRuns_28 : decode cX0_countRuns 28 = .ok (.iload_n 2, 1) := by decide +kernel
theorem dX0_countRuns_29 : decode cX0_countRuns 29 = .ok (.ireturn, 1) := by decide +kernel
theorem dX0_runStart_0 : decode cX0_runStart 0 = .ok (.iload_n 2, 1) := by decide +kernel
theorem dX0_runStart_1 : decode cX0_runStart 1 = .ok (.istore_n 3, 1) := by decide +kernel
theorem dX0_runStart_2 : decode cX0_runStart 2 = .ok (.iconst 0, 1) := by decide +kernel
theorem dX0_runStart_3 : decode cX0_runStart 3 = .ok (.istore 4, 2) := by decide +kernel
theorem dX0_runStart_5 : decode cX0_runStart 5 = .ok (.iload 4, 2) := by decide +kernel
theorem dX0_runStart_7 : decode cX0_runStart 7 = .ok (.bipush 32, 2) := by decide +kernel
theorem dX0_runStart_9 : decode cX0_runStart 9 = .ok (.if_icmp .ge 29, 3) := by decide +kernel
theorem dX0_runStart_12 : decode cX0_runStart 12 = .ok (.aload_n 0, 1) := by decide +kernel
theorem dX0_runStart_13 : decode cX0_runStart 13 = .ok (.iload_n 1, 1) := by decide +kernel
theorem dX0_runStart_14 : decode cX0_runStart 14 = .ok (.iload 4, 2) := by decide +kernel
theorem dX0_runStart_16 : decode cX0_runStart 16 = .ok (.invokevirtual 71, 3) := by decide +kernel
theorem dX0_runStart_19 : decode cX0_runStart 19 = .ok (.ifCond .eq 13, 3) := by decide +kernel
theorem dX0_runStart_22 : decode cX0_runStart 22 = .ok (.iload_n 3, 1) := by decide +kernel
theorem dX0_runStart_23 : decode cX0_runStart 23 = .ok (.ifCond .ne 6, 3) := by decide +kernel
theorem dX0_runStart_26 : decode cX0_runStart 26 = .ok (.iload 4, 2) := by decide +kernel
theorem dX0_runStart_28 : decode cX0_runStart 28 = .ok (.ireturn, 1) := by decide +kernel
theorem dX0_runStart_29 : decode cX0_runStart 29 = .ok (.iinc 3 (-1), 3) := by decide +kernel
theorem dX0_runStart_32 : decode cX0_runStart 32 = .ok (.iinc 4 1, 3) := by decide +kernel
theorem dX0_runStart_35 : decode cX0_runStart 35 = .ok (.goto (-30), 3) := by decide +kernel
theorem dX0_runStart_38 : decode cX0_runStart 38 = .ok (.iconst (-1), 1) := by decide +kernel
theorem dX0_runStart_39 : decode cX0_runStart 39 = .ok (.ireturn, 1) := by decide +kernel
theorem dX0_countRelated_0 : decode cX0_countRelated 0 = .ok (.iconst 0, 1) := by decide +kernel
theorem dX0_countRelated_1 : decode cX0_countRelated 1 = .ok (.istore 5, 2) := by decide +kernel
theorem dX0_countRelated_3 : decode cX0_countRelated 3 = .ok (.iconst 0, 1) := by decide +kernel
theorem dX0_countRelated_4 : decode cX0_countRelated 4 = .ok (.istore 6, 2) := by decide +kernel
theorem dX0_countRelated_6 : decode cX0_countRelated 6 = .ok (.iload 6, 2) := by decide +kernel
theorem dX0_countRelated_8 : decode cX0_countRelated 8 = .ok (.bipush 32, 2) := by decide +kernel
theorem dX0_countRelated_10 : decode cX0_countRelated 10 = .ok (.if_icmp .ge 41, 3) := by decide +kernel
theorem dX0_countRelated_13 : decode cX0_countRelated 13 = .ok (.aload_n 0, 1) := by decide +kernel
theorem dX0_countRelated_14 : decode cX0_countRelated 14 = .ok (.iload_n 3, 1) := by decide +kernel
theorem dX0_countRelated_15 : decode cX0_countRelated 15 = .ok (.iload 6, 2) := by decide +kernel
theorem dX0_countRelated_17 : decode cX0_countRelated 17 = .ok (.invokevirtual 71, 3) := by decide +kernel
theorem dX0_countRelated_20 : decode cX0_countRelated 20 = .ok (.ifCond .eq 25, 3) := by decide +kernel
theorem dX0_countRelated_23 : decode cX0_countRelated 23 = .ok (.iload_n 1, 1) := by decide +kernel
theorem dX0_countRelated_24 : decode cX0_countRelated 24 = .ok (.iload_n 2, 1) := by decide +kernel
theorem dX0_countRelated_25 : decode cX0_countRelated 25 = .ok (.iload 6, 2) := by decide +kernel
theorem dX0_countRelated_27 : decode cX0_countRelated 27 = .ok (.aload_n 0, 1) := by decide +kernel
theorem dX0_countRelated_28 : decode cX0_countRelated 28 = .ok (.iload_n 3, 1) := by decide +kernel
theorem dX0_countRelated_29 : decode cX0_countRelated 29 = .ok (.iload 6, 2) := by decide +kernel
theorem dX0_countRelated_31 : decode cX0_countRelated 31 = .ok (.invokevirtual 74, 3) := by decide +kernel
theorem dX0_countRelated_34 : decode cX0_countRelated 34 = .ok (.invokestatic 77, 3) := by decide +kernel
theorem dX0_countRelated_37 : decode cX0_countRelated 37 = .ok (.iload 4, 2) := by decide +kernel
theorem dX0_countRelated_39 : decode cX0_countRelated 39 = .ok (.if_icmp .ne 6, 3) := by decide +kernel
theorem dX0_countRelated_42 : decode cX0_countRelated 42 = .ok (.iinc 5 1, 3) := by decide +kernel
theorem dX0_countRelated_45 : decode cX0_countRelated 45 = .ok (.iinc 6 1, 3) := by decide +kernel
theorem dX0_countRelated_48 : decode cX0_countRelated 48 = .ok (.goto (-42), 3) := by decide +kernel
theorem dX0_countRelated_51 : decode cX0_countRelated 51 = .ok (.iload 5, 2) := by decide +kernel
theorem dX0_countRelated_53 : decode cX0_countRelated 53 = .ok (.ireturn, 1) := by decide +kernel
theorem dX0_countRows_0 : decode cX0_countRows 0 = .ok (.iconst 0, 1) := by decide +kernel
theorem dX0_countRows_1 : decode cX0_countRows 1 = .ok (.istore_n 1, 1) := by decide +kernel
theorem dX0_countRows_2 : decode cX0_countRows 2 = .ok (.iconst 0, 1) := by decide +kernel
theorem dX0_countRows_3 : decode cX0_countRows 3 = .ok (.istore_n 2, 1) := by decide +kernel
theorem dX0_countRows_4 : decode cX0_countRows 4 = .ok (.iload_n 2, 1) := by decide +kernel
theorem dX0_countRows_5 : decode cX0_countRows 5 = .ok (.aload_n 0, 1) := by decide +kernel
theorem dX0_countRows_6 : decode cX0_countRows 6 = .ok (.getfield 21, 3) := by decide +kernel
theorem dX0_countRows_9 : decode cX0_countRows 9 = .ok (.iconst 1, 1) := by decide +kernel
theorem dX0_countRows_10 : decode cX0_countRows 10 = .ok (.iadd, 1) := by decide +kernel
theorem dX0_countRows_11 : decode cX0_countRows 11 = .ok (.iconst 4, 1) := by decide +kernel
theorem dX0_countRows_12 : decode cX0_countRows 12 = .ok (.imul, 1) := by decide +kernel
theorem dX0_countRows_13 : decode cX0_countRows 13 = .ok (.if_icmp .ge 18, 3) := by decide +kernel
theorem dX0_countRows_16 : decode cX0_countRows 16 = .ok (.iload_n 1, 1) := by decide +kernel
theorem dX0_countRows_17 : decode cX0_countRows 17 = .ok (.aload_n 0, 1) := by decide +kernel
theorem dX0_countRows_18 : decode cX0_countRows 18 = .ok (.getfield 18, 3) := by decide +kernel
theorem dX0_countRows_21 : decode cX0_countRows 21 = .ok (.iload_n 2, 1) := by decide +kernel
theorem dX0_countRows_22 : decode cX0_countRows 22 = .ok (.iaload, 1) := by decide +kernel
theorem dX0_countRows_23 : decode cX0_countRows 23 = .ok (.iadd, 1) := by decide +kernel
theorem dX0_countRows_24 : decode cX0_countRows 24 = .ok (.istore_n 1, 1) := by decide +kernel
theorem dX0_countRows_25 : decode cX0_countRows 25 = .ok (.iinc 2 1, 3) := by decide +kernel
theorem dX0_countRows_28 : decode cX0_countRows 28 = .ok (.goto (-24), 3) := by decide +kernel
theorem dX0_countRows_31 : decode cX0_countRows 31 = .ok (.iload_n 1, 1) := by decide +kernel
theorem dX0_countRows_32 : decode cX0_countRows 32 = .ok (.ireturn, 1) := by decide +kernel
theorem dX0_recountRows_0 : decode cX0_recountRows 0 = .ok (.aload_n 0, 1) := by decide +kernel
theorem dX0_recountRows_1 : decode cX0_recountRows 1 = .ok (.getfield 21, 3) := by decide +kernel
theorem dX0_recountRows_4 : decode cX0_recountRows 4 = .ok (.iload_n 1, 1) := by decide +kernel
theorem dX0_recountRows_5 : decode cX0_recountRows 5 = .ok (.invokestatic 47, 3) := by decide +kernel
theorem dX0_recountRows_8 : decode cX0_recountRows 8 = .ok (.istore_n 2, 1) := by decide +kernel
theorem dX0_recountRows_9 : decode cX0_recountRows 9 = .ok (.iconst 0, 1) := by decide +kernel
theorem dX0_recountRows_10 : decode cX0_recountRows 10 = .ok (.istore_n 3, 1) := by decide +kernel
theorem dX0_recountRows_11 : decode cX0_recountRows 11 = .ok (.iconst 0, 1) := by decide +kernel
theorem dX0_recountRows_12 : decode cX0_recountRows 12 = .ok (.istore 4, 2) := by decide +kernel
theorem dX0_recountRows_14 : decode cX0_recountRows 14 = .ok (.iload 4, 2) := by decide +kernel
theorem dX0_recountRows_16 : decode cX0_recountRows 16 = .ok (.bipush 32, 2) := by decide +kernel
theorem dX0_recountRows_18 : decode cX0_recountRows 18 = .ok (.if_icmp .ge 22, 3) := by decide +kernel
theorem dX0_recountRows_21 : decode cX0_recountRows 21 = .ok (.aload_n 0, 1) := by decide +kernel
theorem dX0_recountRows_22 : decode cX0_recountRows 22 = .ok (.iload_n 2, 1) := by decide +kernel
theorem dX0_recountRows_23 : decode cX0_recountRows 23 = .ok (.iload 4, 2) := by decide +kernel
theorem dX0_recountRows_25 : decode cX0_recountRows 25 = .ok (.invokevirtual 81, 3) := by decide +kernel
theorem dX0_recountRows_28 : decode cX0_recountRows 28 = .ok (.ifCond .eq 6, 3) := by decide +kernel
theorem dX0_recountRows_31 : decode cX0_recountRows 31 = .ok (.iinc 3 1, 3) := by decide +kernel
theorem dX0_recountRows_34 : decode cX0_recountRows 34 = .ok (.iinc 4 1, 3) := by decide +kernel
theorem dX0_recountRows_37 : decode cX0_recountRows 37 = .ok (.goto (-23), 3) := by decide +kernel
theorem dX0_recountRows_40 : decode cX0_recountRows 40 = .ok (.aload_n 0, 1) := by decide +kernel
theorem dX0_recountRows_41 : decode cX0_recountRows 41 = .ok (.getfield 18, 3) := by decide +kernel
theorem dX0_recountRows_44 : decode cX0_recountRows 44 = .ok (.iload_n 2, 1) := by decide +kernel
theorem dX0_recountRows_45 : decode cX0_recountRows 45 = .ok (.iload_n 3, 1) := by decide +kernel
theorem dX0_recountRows_46 : decode cX0_recountRows 46 = .ok (.iastore, 1) := by decide +kernel
theorem dX0_recountRows_47 : decode cX0_recountRows 47 = .ok (.return_, 1) := by decide +kernel
theorem dX0_startsRow_0 : decode cX0_startsRow 0 = .ok (.aload_n 0, 1) := by decide +kernel
theorem dX0_startsRow_1 : decode cX0_startsRow 1 = .ok (.iload_n 1, 1) := by decide +kernel
theorem dX0_startsRow_2 : decode cX0_startsRow 2 = .ok (.iload_n 2, 1) := by decide +kernel
theorem dX0_startsRow_3 : decode cX0_startsRow 3 = .ok (.invokevirtual 71, 3) := by decide +kernel
theorem dX0_startsRow_6 : decode cX0_startsRow 6 = .ok (.ifCond .ne 5, 3) := by decide +kernel
theorem dX0_startsRow_9 : decode cX0_startsRow 9 = .ok (.iconst 0, 1) := by decide +kernel
theorem dX0_startsRow_10 : decode cX0_startsRow 10 = .ok (.ireturn, 1) := by decide +kernel
theorem dX0_startsRow_11 : decode cX0_startsRow 11 = .ok (.iload_n 1, 1) := by decide +kernel
theorem dX0_startsRow_12 : decode cX0_startsRow 12 = .ok (.iconst 4, 1) := by decide +kernel
theorem dX0_startsRow_13 : decode cX0_startsRow 13 = .ok (.if_icmp .lt 15, 3) := by decide +kernel
theorem dX0_startsRow_16 : decode cX0_startsRow 16 = .ok (.aload_n 0, 1) := by decide +kernel
theorem dX0_startsRow_17 : decode cX0_startsRow 17 = .ok (.iload_n 1, 1) := by decide +kernel
theorem dX0_startsRow_18 : decode cX0_startsRow 18 = .ok (.iload_n 1, 1) := by decide +kernel
theorem dX0_startsRow_19 : decode cX0_startsRow 19 = .ok (.iconst 4, 1) := by decide +kernel
theorem dX0_startsRow_20 : decode cX0_startsRow 20 = .ok (.isub, 1) := by decide +kernel
theorem dX0_startsRow_21 : decode cX0_startsRow 21 = .ok (.iload_n 2, 1) := by decide +kernel
theorem dX0_startsRow_22 : decode cX0_startsRow 22 = .ok (.invokevirtual 84, 3) := by decide +kernel
theorem dX0_startsRow_25 : decode cX0_startsRow 25 = .ok (.ifCond .ne 7, 3) := by decide +kernel
theorem dX0_startsRow_28 : decode cX0_startsRow 28 = .ok (.iconst 1, 1) := by decide +kernel
theorem dX0_startsRow_29 : decode cX0_startsRow 29 = .ok (.goto 4, 3) := by decide +kernel
theorem dX0_startsRow_32 : decode cX0_startsRow 32 = .ok (.iconst 0, 1) := by decide +kernel
theorem dX0_startsRow_33 : decode cX0_startsRow 33 = .ok (.ireturn, 1) := by decide +kernel
theorem dX0_sharesRun_0 : decode cX0_sharesRun 0 = .ok (.aload_n 0, 1) := by decide +kernel
theorem dX0_sharesRun_1 : decode cX0_sharesRun 1 = .ok (.iload_n 2, 1) := by decide +kernel
theorem dX0_sharesRun_2 : decode cX0_sharesRun 2 = .ok (.iload_n 3, 1) := by decide +kernel
theorem dX0_sharesRun_3 : decode cX0_sharesRun 3 = .ok (.invokevirtual 71, 3) := by decide +kernel
theorem dX0_sharesRun_6 : decode cX0_sharesRun 6 = .ok (.ifCond .eq 37, 3) := by decide +kernel
theorem dX0_sharesRun_9 : decode cX0_sharesRun 9 = .ok (.aload_n 0, 1) := by decide +kernel
theorem dX0_sharesRun_10 : decode cX0_sharesRun 10 = .ok (.iload_n 2, 1) := by decide +kernel
theorem dX0_sharesRun_11 : decode cX0_sharesRun 11 = .ok (.iload_n 3, 1) := by decide +kernel
theorem dX0_sharesRun_12 : decode cX0_sharesRun 12 = .ok (.invokevirtual 65, 3) := by decide +kernel
theorem dX0_sharesRun_15 : decode cX0_sharesRun 15 = .ok (.aload_n 0, 1) := by decide +kernel
theorem dX0_sharesRun_16 : decode cX0_sharesRun 16 = .ok (.iload_n 1, 1) := by decide +kernel
theorem dX0_sharesRun_17 : decode cX0_sharesRun 17 = .ok (.iload_n 3, 1) := by decide +kernel
theorem dX0_sharesRun_18 : decode cX0_sharesRun 18 = .ok (.invokevirtual 65, 3) := by decide +kernel
theorem dX0_sharesRun_21 : decode cX0_sharesRun 21 = .ok (.if_icmp .ne 22, 3) := by decide +kernel
theorem dX0_sharesRun_24 : decode cX0_sharesRun 24 = .ok (.aload_n 0, 1) := by decide +kernel
theorem dX0_sharesRun_25 : decode cX0_sharesRun 25 = .ok (.iload_n 2, 1) := by decide +kernel
theorem dX0_sharesRun_26 : decode cX0_sharesRun 26 = .ok (.iload_n 3, 1) := by decide +kernel
theorem dX0_sharesRun_27 : decode cX0_sharesRun 27 = .ok (.invokevirtual 74, 3) := by decide +kernel
theorem dX0_sharesRun_30 : decode cX0_sharesRun 30 = .ok (.aload_n 0, 1) := by decide +kernel
theorem dX0_sharesRun_31 : decode cX0_sharesRun 31 = .ok (.iload_n 1, 1) := by decide +kernel
theorem dX0_sharesRun_32 : decode cX0_sharesRun 32 = .ok (.iload_n 3, 1) := by decide +kernel
theorem dX0_sharesRun_33 : decode cX0_sharesRun 33 = .ok (.invokevirtual 74, 3) := by decide +kernel
theorem dX0_sharesRun_36 : decode cX0_sharesRun 36 = .ok (.if_icmp .ne 7, 3) := by decide +kernel
theorem dX0_sharesRun_39 : decode cX0_sharesRun 39 = .ok (.iconst 1, 1) := by decide +kernel
theorem dX0_sharesRun_40 : decode cX0_sharesRun 40 = .ok (.goto 4, 3) := by decide +kernel
theorem dX0_sharesRun_43 : decode cX0_sharesRun 43 = .ok (.iconst 0, 1) := by decide +kernel
theorem dX0_sharesRun_44 : decode cX0_sharesRun 44 = .ok (.ireturn, 1) := by decide +kernel
theorem dX0_rowPart_0 : decode cX0_rowPart 0 = .ok (.iload_n 1, 1) := by decide +kernel
theorem dX0_rowPart_1 : decode cX0_rowPart 1 = .ok (.istore_n 3, 1) := by decide +kernel
theorem dX0_rowPart_2 : decode cX0_rowPart 2 = .ok (.iconst 0, 1) := by decide +kernel
theorem dX0_rowPart_3 : decode cX0_rowPart 3 = .ok (.istore 4, 2) := by decide +kernel
theorem dX0_rowPart_5 : decode cX0_rowPart 5 = .ok (.iload 4, 2) := by decide +kernel
theorem dX0_rowPart_7 : decode cX0_rowPart 7 = .ok (.iconst 4, 1) := by decide +kernel
theorem dX0_rowPart_8 : decode cX0_rowPart 8 = .ok (.if_icmp .ge 74, 3) := by decide +kernel
theorem dX0_rowPart_11 : decode cX0_rowPart 11 = .ok (.iconst 0, 1) := by decide +kernel
theorem dX0_rowPart_12 : decode cX0_rowPart 12 = .ok (.istore 5, 2) := by decide +kernel
theorem dX0_rowPart_14 : decode cX0_rowPart 14 = .ok (.iload 5, 2) := by decide +kernel
theorem dX0_rowPart_16 : decode cX0_rowPart 16 = .ok (.aload_n 0, 1) := by decide +kernel
theorem dX0_rowPart_17 : decode cX0_rowPart 17 = .ok (.getfield 21, 3) := by decide +kernel
theorem dX0_rowPart_20 : decode cX0_rowPart 20 = .ok (.if_icmp .gt 56, 3) := by decide +kernel
theorem dX0_rowPart_23 : decode cX0_rowPart 23 = .ok (.aload_n 0, 1) := by decide +kernel
theorem dX0_rowPart_24 : decode cX0_rowPart 24 = .ok (.getfield 18, 3) := by decide +kernel
theorem dX0_rowPart_27 : decode cX0_rowPart 27 = .ok (.iload 5, 2) := by decide +kernel
theorem dX0_rowPart_29 : decode cX0_rowPart 29 = .ok (.iload 4, 2) := by decide +kernel
theorem dX0_rowPart_31 : decode cX0_rowPart 31 = .ok (.invokestatic 47, 3) := by decide +kernel
theorem dX0_rowPart_34 : decode cX0_rowPart 34 = .ok (.iaload, 1) := by decide +kernel
theorem dX0_rowPart_35 : decode cX0_rowPart 35 = .ok (.istore 6, 2) := by decide +kernel
theorem dX0_rowPart_37 : decode cX0_rowPart 37 = .ok (.iload_n 3, 1) := by decide +kernel
theorem dX0_rowPart_38 : decode cX0_rowPart 38 = .ok (.iload 6, 2) := by decide +kernel
theorem dX0_rowPart_40 : decode cX0_rowPart 40 = .ok (.if_icmp .ge 25, 3) := by decide +kernel
theorem dX0_rowPart_43 : decode cX0_rowPart 43 = .ok (.aload_n 0, 1) := by decide +kernel
theorem dX0_rowPart_44 : decode cX0_rowPart 44 = .ok (.iload 5, 2) := by decide +kernel
theorem dX0_rowPart_46 : decode cX0_rowPart 46 = .ok (.iload 4, 2) := by decide +kernel
theorem dX0_rowPart_48 : decode cX0_rowPart 48 = .ok (.aload_n 0, 1) := by decide +kernel
theorem dX0_rowPart_49 : decode cX0_rowPart 49 = .ok (.iload 5, 2) := by decide +kernel
theorem dX0_rowPart_51 : decode cX0_rowPart 51 = .ok (.iload 4, 2) := by decide +kernel
theorem dX0_rowPart_53 : decode cX0_rowPart 53 = .ok (.invokestatic 47, 3) := by decide +kernel
theorem dX0_rowPart_56 : decode cX0_rowPart 56 = .ok (.iload_n 3, 1) := by decide +kernel
theorem dX0_rowPart_57 : decode cX0_rowPart 57 = .ok (.invokevirtual 88, 3) := by decide +kernel
theorem dX0_rowPart_60 : decode cX0_rowPart 60 = .ok (.iload_n 2, 1) := by decide +kernel
theorem dX0_rowPart_61 : decode cX0_rowPart 61 = .ok (.invokevirtual 91, 3) := by decide +kernel
theorem dX0_rowPart_64 : decode cX0_rowPart 64 = .ok (.ireturn, 1) := by decide +kernel
theorem dX0_rowPart_65 : decode cX0_rowPart 65 = .ok (.iload_n 3, 1) := by decide +kernel
theorem dX0_rowPart_66 : decode cX0_rowPart 66 = .ok (.iload 6, 2) := by decide +kernel
theorem dX0_rowPart_68 : decode cX0_rowPart 68 = .ok (.isub, 1) := by decide +kernel
theorem dX0_rowPart_69 : decode cX0_rowPart 69 = .ok (.istore_n 3, 1) := by decide +kernel
theorem dX0_rowPart_70 : decode cX0_rowPart 70 = .ok (.iinc 5 1, 3) := by decide +kernel
theorem dX0_rowPart_73 : decode cX0_rowPart 73 = .ok (.goto (-59), 3) := by decide +kernel
theorem dX0_rowPart_76 : decode cX0_rowPart 76 = .ok (.iinc 4 1, 3) := by decide +kernel
theorem dX0_rowPart_79 : decode cX0_rowPart 79 = .ok (.goto (-74), 3) := by decide +kernel
theorem dX0_rowPart_82 : decode cX0_rowPart 82 = .ok (.iconst (-1), 1) := by decide +kernel
theorem dX0_rowPart_83 : decode cX0_rowPart 83 = .ok (.ireturn, 1) := by decide +kernel
theorem dX0_rowStart_0 : decode cX0_rowStart 0 = .ok (.iload_n 2, 1) := by decide +kernel
theorem dX0_rowStart_1 : decode cX0_rowStart 1 = .ok (.istore_n 3, 1) := by decide +kernel
theorem dX0_rowStart_2 : decode cX0_rowStart 2 = .ok (.iconst 0, 1) := by decide +kernel
theorem dX0_rowStart_3 : decode cX0_rowStart 3 = .ok (.istore 4, 2) := by decide +kernel
theorem dX0_rowStart_5 : decode cX0_rowStart 5 = .ok (.iload 4, 2) := by decide +kernel
theorem dX0_rowStart_7 : decode cX0_rowStart 7 = .ok (.bipush 32, 2) := by decide +kernel
theorem dX0_rowStart_9 : decode cX0_rowStart 9 = .ok (.if_icmp .ge 29, 3) := by decide +kernel
theorem dX0_rowStart_12 : decode cX0_rowStart 12 = .ok (.aload_n 0, 1) := by decide +kernel
theorem dX0_rowStart_13 : decode cX0_rowStart 13 = .ok (.iload_n 1, 1) := by decide +kernel
theorem dX0_rowStart_14 : decode cX0_rowStart 14 = .ok (.iload 4, 2) := by decide +kernel
theorem dX0_rowStart_16 : decode cX0_rowStart 16 = .ok (.invokevirtual 81, 3) := by decide +kernel
theorem dX0_rowStart_19 : decode cX0_rowStart 19 = .ok (.ifCond .eq 13, 3) := by decide +kernel
theorem dX0_rowStart_22 : decode cX0_rowStart 22 = .ok (.iload_n 3, 1) := by decide +kernel
theorem dX0_rowStart_23 : decode cX0_rowStart 23 = .ok (.ifCond .ne 6, 3) := by decide +kernel
theorem dX0_rowStart_26 : decode cX0_rowStart 26 = .ok (.iload 4, 2) := by decide +kernel
theorem dX0_rowStart_28 : decode cX0_rowStart 28 = .ok (.ireturn, 1) := by decide +kernel
theorem dX0_rowStart_29 : decode cX0_rowStart 29 = .ok (.iinc 3 (-1), 3) := by decide +kernel
theorem dX0_rowStart_32 : decode cX0_rowStart 32 = .ok (.iinc 4 1, 3) := by decide +kernel
theorem dX0_rowStart_35 : decode cX0_rowStart 35 = .ok (.goto (-30), 3) := by decide +kernel
theorem dX0_rowStart_38 : decode cX0_rowStart 38 = .ok (.iconst 0, 1) := by decide +kernel
theorem dX0_rowStart_39 : decode cX0_rowStart 39 = .ok (.ireturn, 1) := by decide +kernel
theorem dX0_partOfRow_0 : decode cX0_partOfRow 0 = .ok (.iload_n 1, 1) := by decide +kernel
theorem dX0_partOfRow_1 : decode cX0_partOfRow 1 = .ok (.iload_n 2, 1) := by decide +kernel
theorem dX0_partOfRow_2 : decode cX0_partOfRow 2 = .ok (.invokestatic 47, 3) := by decide +kernel
theorem dX0_partOfRow_5 : decode cX0_partOfRow 5 = .ok (.istore 5, 2) := by decide +kernel
theorem dX0_partOfRow_7 : decode cX0_partOfRow 7 = .ok (.iload 4, 2) := by decide +kernel
theorem dX0_partOfRow_9 : decode cX0_partOfRow 9 = .ok (.tableswitch 57 0 4 #[35, 37, 45, 47, 55], 35) := by decide +kernel
theorem dX0_partOfRow_44 : decode cX0_partOfRow 44 = .ok (.iload_n 2, 1) := by decide +kernel
theorem dX0_partOfRow_45 : decode cX0_partOfRow 45 = .ok (.ireturn, 1) := by decide +kernel
theorem dX0_partOfRow_46 : decode cX0_partOfRow 46 = .ok (.aload_n 0, 1) := by decide +kernel
theorem dX0_partOfRow_47 : decode cX0_partOfRow 47 = .ok (.iload 5, 2) := by decide +kernel
theorem dX0_partOfRow_49 : decode cX0_partOfRow 49 = .ok (.iload_n 3, 1) := by decide +kernel
theorem dX0_partOfRow_50 : decode cX0_partOfRow 50 = .ok (.invokevirtual 65, 3) := by decide +kernel
theorem dX0_partOfRow_53 : decode cX0_partOfRow 53 = .ok (.ireturn, 1) := by decide +kernel
theorem dX0_partOfRow_54 : decode cX0_partOfRow 54 = .ok (.iload_n 3, 1) := by decide +kernel
theorem dX0_partOfRow_55 : decode cX0_partOfRow 55 = .ok (.ireturn, 1) := by decide +kernel
theorem dX0_partOfRow_56 : decode cX0_partOfRow 56 = .ok (.aload_n 0, 1) := by decide +kernel
theorem dX0_partOfRow_57 : decode cX0_partOfRow 57 = .ok (.iload 5, 2) := by decide +kernel
theorem dX0_partOfRow_59 : decode cX0_partOfRow 59 = .ok (.iload_n 3, 1) := by decide +kernel
theorem dX0_partOfRow_60 : decode cX0_partOfRow 60 = .ok (.invokevirtual 74, 3) := by decide +kernel
theorem dX0_partOfRow_63 : decode cX0_partOfRow 63 = .ok (.ireturn, 1) := by decide +kernel
theorem dX0_partOfRow_64 : decode cX0_partOfRow 64 = .ok (.iload_n 1, 1) := by decide +kernel
theorem dX0_partOfRow_65 : decode cX0_partOfRow 65 = .ok (.ireturn, 1) := by decide +kernel
theorem dX0_partOfRow_66 : decode cX0_partOfRow 66 = .ok (.aload_n 0, 1) := by decide +kernel
theorem dX0_partOfRow_67 : decode cX0_partOfRow 67 = .ok (.iload_n 1, 1) := by decide +kernel
theorem dX0_partOfRow_68 : decode cX0_partOfRow 68 = .ok (.iload_n 2, 1) := by decide +kernel
theorem dX0_partOfRow_69 : decode cX0_partOfRow 69 = .ok (.iload_n 3, 1) := by decide +kernel
theorem dX0_partOfRow_70 : decode cX0_partOfRow 70 = .ok (.invokevirtual 94, 3) := by decide +kernel
theorem dX0_partOfRow_73 : decode cX0_partOfRow 73 = .ok (.ireturn, 1) := by decide +kernel
theorem dX0_rowEnd_0 : decode cX0_rowEnd 0 = .ok (.iload_n 1, 1) := by decide +kernel
theorem dX0_rowEnd_1 : decode cX0_rowEnd 1 = .ok (.iload_n 2, 1) := by decide +kernel
theorem dX0_rowEnd_2 : decode cX0_rowEnd 2 = .ok (.invokestatic 47, 3) := by decide +kernel
theorem dX0_rowEnd_5 : decode cX0_rowEnd 5 = .ok (.istore 4, 2) := by decide +kernel
theorem dX0_rowEnd_7 : decode cX0_rowEnd 7 = .ok (.iload_n 1, 1) := by decide +kernel
theorem dX0_rowEnd_8 : decode cX0_rowEnd 8 = .ok (.iconst 1, 1) := by decide +kernel
theorem dX0_rowEnd_9 : decode cX0_rowEnd 9 = .ok (.iadd, 1) := by decide +kernel
theorem dX0_rowEnd_10 : decode cX0_rowEnd 10 = .ok (.istore 5, 2) := by decide +kernel
theorem dX0_rowEnd_12 : decode cX0_rowEnd 12 = .ok (.iload 5, 2) := by decide +kernel
theorem dX0_rowEnd_14 : decode cX0_rowEnd 14 = .ok (.aload_n 0, 1) := by decide +kernel
theorem dX0_rowEnd_15 : decode cX0_rowEnd 15 = .ok (.getfield 21, 3) := by decide +kernel
theorem dX0_rowEnd_18 : decode cX0_rowEnd 18 = .ok (.if_icmp .gt 28, 3) := by decide +kernel
theorem dX0_rowEnd_21 : decode cX0_rowEnd 21 = .ok (.aload_n 0, 1) := by decide +kernel
theorem dX0_rowEnd_22 : decode cX0_rowEnd 22 = .ok (.iload 4, 2) := by decide +kernel
theorem dX0_rowEnd_24 : decode cX0_rowEnd 24 = .ok (.iload 5, 2) := by decide +kernel
theorem dX0_rowEnd_26 : decode cX0_rowEnd 26 = .ok (.iload_n 2, 1) := by decide +kernel
theorem dX0_rowEnd_27 : decode cX0_rowEnd 27 = .ok (.invokestatic 47, 3) := by decide +kernel
theorem dX0_rowEnd_30 : decode cX0_rowEnd 30 = .ok (.iload_n 3, 1) := by decide +kernel
theorem dX0_rowEnd_31 : decode cX0_rowEnd 31 = .ok (.invokevirtual 84, 3) := by decide +kernel
theorem dX0_rowEnd_34 : decode cX0_rowEnd 34 = .ok (.ifCond .ne 6, 3) := by decide +kernel
theorem dX0_rowEnd_37 : decode cX0_rowEnd 37 = .ok (.iload 5, 2) := by decide +kernel
theorem dX0_rowEnd_39 : decode cX0_rowEnd 39 = .ok (.ireturn, 1) := by decide +kernel
theorem dX0_rowEnd_40 : decode cX0_rowEnd 40 = .ok (.iinc 5 1, 3) := by decide +kernel
theorem dX0_rowEnd_43 : decode cX0_rowEnd 43 = .ok (.goto (-31), 3) := by decide +kernel
theorem dX0_rowEnd_46 : decode cX0_rowEnd 46 = .ok (.iconst (-1), 1) := by decide +kernel
theorem dX0_rowEnd_47 : decode cX0_rowEnd 47 = .ok (.ireturn, 1) := by decide +kernel
theorem dX1_init_0 : decode cX1_init 0 = .ok (.aload_n 0, 1) := by decide +kernel
theorem dX1_init_1 : decode cX1_init 1 = .ok (.invokespecial 3, 3) := by decide +kernel
theorem dX1_init_4 : decode cX1_init 4 = .ok (.aload_n 0, 1) := by decide +kernel
theorem dX1_init_5 : decode cX1_init 5 = .ok (.bipush 40, 2) := by decide +kernel
theorem dX1_init_7 : decode cX1_init 7 = .ok (.newarray .int, 2) := by decide +kernel
theorem dX1_init_9 : decode cX1_init 9 = .ok (.putfield 11, 3) := by decide +kernel
theorem dX1_init_12 : decode cX1_init 12 = .ok (.aload_n 0, 1) := by decide +kernel
theorem dX1_init_13 : decode cX1_init 13 = .ok (.iconst 0, 1) := by decide +kernel
theorem dX1_init_14 : decode cX1_init 14 = .ok (.putfield 15, 3) := by decide +kernel
theorem dX1_init_17 : decode cX1_init 17 = .ok (.return_, 1) := by decide +kernel
theorem dX1_append_0 : decode cX1_append 0 = .ok (.aload_n 0, 1) := by decide +kernel
theorem dX1_append_1 : decode cX1_append 1 = .ok (.getfield 15, 3) := by decide +kernel
theorem dX1_append_4 : decode cX1_append 4 = .ok (.bipush 8, 2) := by decide +kernel
theorem dX1_append_6 : decode cX1_append 6 = .ok (.if_icmp .lt 5, 3) := by decide +kernel
theorem dX1_append_9 : decode cX1_append 9 = .ok (.iconst 0, 1) := by decide +kernel
theorem dX1_append_10 : decode cX1_append 10 = .ok (.ireturn, 1) := by decide +kernel
theorem dX1_append_11 : decode cX1_append 11 = .ok (.aload_n 0, 1) := by decide +kernel
theorem dX1_append_12 : decode cX1_append 12 = .ok (.getfield 15, 3) := by decide +kernel
theorem dX1_append_15 : decode cX1_append 15 = .ok (.iconst 5, 1) := by decide +kernel
theorem dX1_append_16 : decode cX1_append 16 = .ok (.imul, 1) := by decide +kernel
theorem dX1_append_17 : decode cX1_append 17 = .ok (.istore 6, 2) := by decide +kernel
theorem dX1_append_19 : decode cX1_append 19 = .ok (.aload_n 0, 1) := by decide +kernel
theorem dX1_append_20 : decode cX1_append 20 = .ok (.getfield 11, 3) := by decide +kernel
theorem dX1_append_23 : decode cX1_append 23 = .ok (.iload 6, 2) := by decide +kernel
theorem dX1_append_25 : decode cX1_append 25 = .ok (.iload_n 1, 1) := by decide +kernel
theorem dX1_append_26 : decode cX1_append 26 = .ok (.iastore, 1) := by decide +kernel
theorem dX1_append_27 : decode cX1_append 27 = .ok (.aload_n 0, 1) := by decide +kernel
theorem dX1_append_28 : decode cX1_append 28 = .ok (.getfield 11, 3) := by decide +kernel
theorem dX1_append_31 : decode cX1_append 31 = .ok (.iload 6, 2) := by decide +kernel
theorem dX1_append_33 : decode cX1_append 33 = .ok (.iconst 1, 1) := by decide +kernel
theorem dX1_append_34 : decode cX1_append 34 = .ok (.iadd, 1) := by decide +kernel
theorem dX1_append_35 : decode cX1_append 35 = .ok (.iload_n 2, 1) := by decide +kernel
theorem dX1_append_36 : decode cX1_append 36 = .ok (.iastore, 1) := by decide +kernel
theorem dX1_append_37 : decode cX1_append 37 = .ok (.aload_n 0, 1) := by decide +kernel
theorem dX1_append_38 : decode cX1_append 38 = .ok (.getfield 11, 3) := by decide +kernel
theorem dX1_append_41 : decode cX1_append 41 = .ok (.iload 6, 2) := by decide +kernel
theorem dX1_append_43 : decode cX1_append 43 = .ok (.iconst 2, 1) := by decide +kernel
theorem dX1_append_44 : decode cX1_append 44 = .ok (.iadd, 1) := by decide +kernel
theorem dX1_append_45 : decode cX1_append 45 = .ok (.iload_n 3, 1) := by decide +kernel
theorem dX1_append_46 : decode cX1_append 46 = .ok (.iastore, 1) := by decide +kernel
theorem dX1_append_47 : decode cX1_append 47 = .ok (.aload_n 0, 1) := by decide +kernel
theorem dX1_append_48 : decode cX1_append 48 = .ok (.getfield 11, 3) := by decide +kernel
theorem dX1_append_51 : decode cX1_append 51 = .ok (.iload 6, 2) := by decide +kernel
theorem dX1_append_53 : decode cX1_append 53 = .ok (.iconst 3, 1) := by decide +kernel
theorem dX1_append_54 : decode cX1_append 54 = .ok (.iadd, 1) := by decide +kernel
theorem dX1_append_55 : decode cX1_append 55 = .ok (.iload 4, 2) := by decide +kernel
theorem dX1_append_57 : decode cX1_append 57 = .ok (.iastore, 1) := by decide +kernel
theorem dX1_append_58 : decode cX1_append 58 = .ok (.aload_n 0, 1) := by decide +kernel
theorem dX1_append_59 : decode cX1_append 59 = .ok (.getfield 11, 3) := by decide +kernel
theorem dX1_append_62 : decode cX1_append 62 = .ok (.iload 6, 2) := by decide +kernel
theorem dX1_append_64 : decode cX1_append 64 = .ok (.iconst 4, 1) := by decide +kernel
theorem dX1_append_65 : decode cX1_append 65 = .ok (.iadd, 1) := by decide +kernel
theorem dX1_append_66 : decode cX1_append 66 = .ok (.iload 5, 2) := by decide +kernel
theorem dX1_append_68 : decode cX1_append 68 = .ok (.iastore, 1) := by decide +kernel
theorem dX1_append_69 : decode cX1_append 69 = .ok (.aload_n 0, 1) := by decide +kernel
theorem dX1_append_70 : decode cX1_append 70 = .ok (.dup, 1) := by decide +kernel
theorem dX1_append_71 : decode cX1_append 71 = .ok (.getfield 15, 3) := by decide +kernel
theorem dX1_append_74 : decode cX1_append 74 = .ok (.iconst 1, 1) := by decide +kernel
theorem dX1_append_75 : decode cX1_append 75 = .ok (.iadd, 1) := by decide +kernel
theorem dX1_append_76 : decode cX1_append 76 = .ok (.putfield 15, 3) := by decide +kernel
theorem dX1_append_79 : decode cX1_append 79 = .ok (.iconst 1, 1) := by decide +kernel
theorem dX1_append_80 : decode cX1_append 80 = .ok (.ireturn, 1) := by decide +kernel
theorem dX1_word_0 : decode cX1_word 0 = .ok (.aload_n 0, 1) := by decide +kernel
theorem dX1_word_1 : decode cX1_word 1 = .ok (.getfield 11, 3) := by decide +kernel
theorem dX1_word_4 : decode cX1_word 4 = .ok (.iload_n 1, 1) := by decide +kernel
theorem dX1_word_5 : decode cX1_word 5 = .ok (.iconst 5, 1) := by decide +kernel
theorem dX1_word_6 : decode cX1_word 6 = .ok (.imul, 1) := by decide +kernel
theorem dX1_word_7 : decode cX1_word 7 = .ok (.iload_n 2, 1) := by decide +kernel
theorem dX1_word_8 : decode cX1_word 8 = .ok (.iadd, 1) := by decide +kernel
theorem dX1_word_9 : decode cX1_word 9 = .ok (.iaload, 1) := by decide +kernel
theorem dX1_word_10 : decode cX1_word 10 = .ok (.ireturn, 1) := by decide +kernel
end
section
theorem dX2_init_0 : decode cX2_init 0 = .ok (.aload_n 0, 1) := by decide +kernel
theorem dX2_init_1 : decode cX2_init 1 = .ok (.invokespecial 1, 3) := by decide +kernel
theorem dX2_init_4 : decode cX2_init 4 = .ok (.aload_n 0, 1) := by decide +kernel
theorem dX2_init_5 : decode cX2_init 5 = .ok (.new 7, 3) := by decide +kernel
theorem dX2_init_8 : decode cX2_init 8 = .ok (.dup, 1) := by decide +kernel
theorem dX2_init_9 : decode cX2_init 9 = .ok (.invokespecial 9, 3) := by decide +kernel
theorem dX2_init_12 : decode cX2_init 12 = .ok (.putfield 10, 3) := by decide +kernel
theorem dX2_init_15 : decode cX2_init 15 = .ok (.aload_n 0, 1) := by decide +kernel
theorem dX2_init_16 : decode cX2_init 16 = .ok (.new 16, 3) := by decide +kernel
theorem dX2_init_19 : decode cX2_init 19 = .ok (.dup, 1) := by decide +kernel
theorem dX2_init_20 : decode cX2_init 20 = .ok (.invokespecial 18, 3) := by decide +kernel
theorem dX2_init_23 : decode cX2_init 23 = .ok (.putfield 19, 3) := by decide +kernel
theorem dX2_init_26 : decode cX2_init 26 = .ok (.aload_n 0, 1) := by decide +kernel
theorem dX2_init_27 : decode cX2_init 27 = .ok (.iconst (-1), 1) := by decide +kernel
theorem dX2_init_28 : decode cX2_init 28 = .ok (.putfield 23, 3) := by decide +kernel
theorem dX2_init_31 : decode cX2_init 31 = .ok (.return_, 1) := by decide +kernel
theorem dX2_tick_0 : decode cX2_tick 0 = .ok (.aload_n 0, 1) := by decide +kernel
theorem dX2_tick_1 : decode cX2_tick 1 = .ok (.getfield 10, 3) := by decide +kernel
theorem dX2_tick_4 : decode cX2_tick 4 = .ok (.getfield 27, 3) := by decide +kernel
theorem dX2_tick_7 : decode cX2_tick 7 = .ok (.bipush 39, 2) := by decide +kernel
theorem dX2_tick_9 : decode cX2_tick 9 = .ok (.if_icmp .lt 11, 3) := by decide +kernel
theorem dX2_tick_12 : decode cX2_tick 12 = .ok (.new 30, 3) := by decide +kernel
theorem dX2_tick_15 : decode cX2_tick 15 = .ok (.dup, 1) := by decide +kernel
theorem dX2_tick_16 : decode cX2_tick 16 = .ok (.invokespecial 32, 3) := by decide +kernel
theorem dX2_tick_19 : decode cX2_tick 19 = .ok (.athrow, 1) := by decide +kernel
theorem dX2_tick_20 : decode cX2_tick 20 = .ok (.aload_n 0, 1) := by decide +kernel
theorem dX2_tick_21 : decode cX2_tick 21 = .ok (.getfield 10, 3) := by decide +kernel
theorem dX2_tick_24 : decode cX2_tick 24 = .ok (.invokevirtual 33, 3) := by decide +kernel
theorem dX2_tick_27 : decode cX2_tick 27 = .ok (.aload_n 0, 1) := by decide +kernel
theorem dX2_tick_28 : decode cX2_tick 28 = .ok (.getfield 10, 3) := by decide +kernel
theorem dX2_tick_31 : decode cX2_tick 31 = .ok (.getfield 27, 3) := by decide +kernel
theorem dX2_tick_34 : decode cX2_tick 34 = .ok (.ireturn, 1) := by decide +kernel
theorem dX2_clock_0 : decode cX2_clock 0 = .ok (.aload_n 0, 1) := by decide +kernel
theorem dX2_clock_1 : decode cX2_clock 1 = .ok (.getfield 10, 3) := by decide +kernel
theorem dX2_clock_4 : decode cX2_clock 4 = .ok (.getfield 27, 3) := by decide +kernel
theorem dX2_clock_7 : decode cX2_clock 7 = .ok (.ireturn, 1) := by decide +kernel
theorem dX2_state_0 : decode cX2_state 0 = .ok (.aload_n 0, 1) := by decide +kernel
theorem dX2_state_1 : decode cX2_state 1 = .ok (.getfield 10, 3) := by decide +kernel
theorem dX2_state_4 : decode cX2_state 4 = .ok (.invokevirtual 36, 3) := by decide +kernel
theorem dX2_state_7 : decode cX2_state 7 = .ok (.aload_n 0, 1) := by decide +kernel
theorem dX2_state_8 : decode cX2_state 8 = .ok (.getfield 10, 3) := by decide +kernel
theorem dX2_state_11 : decode cX2_state 11 = .ok (.iload_n 1, 1) := by decide +kernel
theorem dX2_state_12 : decode cX2_state 12 = .ok (.iload_n 2, 1) := by decide +kernel
theorem dX2_state_13 : decode cX2_state 13 = .ok (.iload_n 3, 1) := by decide +kernel
theorem dX2_state_14 : decode cX2_state 14 = .ok (.iload 4, 2) := by decide +kernel
theorem dX2_state_16 : decode cX2_state 16 = .ok (.iload 5, 2) := by decide +kernel
theorem dX2_state_18 : decode cX2_state 18 = .ok (.invokevirtual 39, 3) := by decide +kernel
theorem dX2_state_21 : decode cX2_state 21 = .ok (.istore 6, 2) := by decide +kernel
theorem dX2_state_23 : decode cX2_state 23 = .ok (.iload 6, 2) := by decide +kernel
theorem dX2_state_25 : decode cX2_state 25 = .ok (.ifCond .ge 15, 3) := by decide +kernel
theorem dX2_state_28 : decode cX2_state 28 = .ok (.aload_n 0, 1) := by decide +kernel
theorem dX2_state_29 : decode cX2_state 29 = .ok (.getfield 10, 3) := by decide +kernel
theorem dX2_state_32 : decode cX2_state 32 = .ok (.invokevirtual 43, 3) := by decide +kernel
theorem dX2_state_35 : decode cX2_state 35 = .ok (.iload 6, 2) := by decide +kernel
theorem dX2_state_37 : decode cX2_state 37 = .ok (.invokestatic 46, 3) := by decide +kernel
theorem dX2_state_40 : decode cX2_state 40 = .ok (.iload 6, 2) := by decide +kernel
theorem dX2_state_42 : decode cX2_state 42 = .ok (.ireturn, 1) := by decide +kernel
theorem dX2_queue_0 : decode cX2_queue 0 = .ok (.aload_n 0, 1) := by decide +kernel
theorem dX2_queue_1 : decode cX2_queue 1 = .ok (.getfield 19, 3) := by decide +kernel
theorem dX2_queue_4 : decode cX2_queue 4 = .ok (.iload_n 1, 1) := by decide +kernel
theorem dX2_queue_5 : decode cX2_queue 5 = .ok (.iload_n 2, 1) := by decide +kernel
theorem dX2_queue_6 : decode cX2_queue 6 = .ok (.iload_n 3, 1) := by decide +kernel
theorem dX2_queue_7 : decode cX2_queue 7 = .ok (.iload 4, 2) := by decide +kernel
theorem dX2_queue_9 : decode cX2_queue 9 = .ok (.iload 5, 2) := by decide +kernel
theorem dX2_queue_11 : decode cX2_queue 11 = .ok (.invokevirtual 50, 3) := by decide +kernel
theorem dX2_queue_14 : decode cX2_queue 14 = .ok (.ireturn, 1) := by decide +kernel
theorem dX2_commit_0 : decode cX2_commit 0 = .ok (.aload_n 0, 1) := by decide +kernel
theorem dX2_commit_1 : decode cX2_commit 1 = .ok (.getfield 10, 3) := by decide +kernel
theorem dX2_commit_4 : decode cX2_commit 4 = .ok (.invokevirtual 36, 3) := by decide +kernel
theorem dX2_commit_7 : decode cX2_commit 7 = .ok (.aload_n 0, 1) := by decide +kernel
theorem dX2_commit_8 : decode cX2_commit 8 = .ok (.iconst (-1), 1) := by decide +kernel
theorem dX2_commit_9 : decode cX2_commit 9 = .ok (.putfield 23, 3) := by decide +kernel
theorem dX2_commit_12 : decode cX2_commit 12 = .ok (.iconst 0, 1) := by decide +kernel
theorem dX2_commit_13 : decode cX2_commit 13 = .ok (.istore_n 1, 1) := by decide +kernel
theorem dX2_commit_14 : decode cX2_commit 14 = .ok (.iconst 0, 1) := by decide +kernel
theorem dX2_commit_15 : decode cX2_commit 15 = .ok (.istore_n 2, 1) := by decide +kernel
theorem dX2_commit_16 : decode cX2_commit 16 = .ok (.iconst 0, 1) := by decide +kernel
theorem dX2_commit_17 : decode cX2_commit 17 = .ok (.istore_n 3, 1) := by decide +kernel
theorem dX2_commit_18 : decode cX2_commit 18 = .ok (.iload_n 3, 1) := by decide +kernel
theorem dX2_commit_19 : decode cX2_commit 19 = .ok (.aload_n 0, 1) := by decide +kernel
theorem dX2_commit_20 : decode cX2_commit 20 = .ok (.getfield 19, 3) := by decide +kernel
theorem dX2_commit_23 : decode cX2_commit 23 = .ok (.getfield 54, 3) := by decide +kernel
theorem dX2_commit_26 : decode cX2_commit 26 = .ok (.if_icmp .ge 92, 3) := by decide +kernel
theorem dX2_commit_29 : decode cX2_commit 29 = .ok (.aload_n 0, 1) := by decide +kernel
theorem dX2_commit_30 : decode cX2_commit 30 = .ok (.getfield 23, 3) := by decide +kernel
theorem dX2_commit_33 : decode cX2_commit 33 = .ok (.iconst (-1), 1) := by decide +kernel
theorem dX2_commit_34 : decode cX2_commit 34 = .ok (.if_icmp .ne 84, 3) := by decide +kernel
theorem dX2_commit_37 : decode cX2_commit 37 = .ok (.aload_n 0, 1) := by decide +kernel
theorem dX2_commit_38 : decode cX2_commit 38 = .ok (.getfield 10, 3) := by decide +kernel
theorem dX2_commit_41 : decode cX2_commit 41 = .ok (.aload_n 0, 1) := by decide +kernel
theorem dX2_commit_42 : decode cX2_commit 42 = .ok (.getfield 19, 3) := by decide +kernel
theorem dX2_commit_45 : decode cX2_commit 45 = .ok (.iload_n 3, 1) := by decide +kernel
theorem dX2_commit_46 : decode cX2_commit 46 = .ok (.iconst 0, 1) := by decide +kernel
theorem dX2_commit_47 : decode cX2_commit 47 = .ok (.invokevirtual 57, 3) := by decide +kernel
theorem dX2_commit_50 : decode cX2_commit 50 = .ok (.aload_n 0, 1) := by decide +kernel
theorem dX2_commit_51 : decode cX2_commit 51 = .ok (.getfield 19, 3) := by decide +kernel
theorem dX2_commit_54 : decode cX2_commit 54 = .ok (.iload_n 3, 1) := by decide +kernel
theorem dX2_commit_55 : decode cX2_commit 55 = .ok (.iconst 1, 1) := by decide +kernel
theorem dX2_commit_56 : decode cX2_commit 56 = .ok (.invokevirtual 57, 3) := by decide +kernel
theorem dX2_commit_59 : decode cX2_commit 59 = .ok (.aload_n 0, 1) := by decide +kernel
theorem dX2_commit_60 : decode cX2_commit 60 = .ok (.getfield 19, 3) := by decide +kernel
theorem dX2_commit_63 : decode cX2_commit 63 = .ok (.iload_n 3, 1) := by decide +kernel
theorem dX2_commit_64 : decode cX2_commit 64 = .ok (.iconst 2, 1) := by decide +kernel
theorem dX2_commit_65 : decode cX2_commit 65 = .ok (.invokevirtual 57, 3) := by decide +kernel
theorem dX2_commit_68 : decode cX2_commit 68 = .ok (.aload_n 0, 1) := by decide +kernel
theorem dX2_commit_69 : decode cX2_commit 69 = .ok (.getfield 19, 3) := by decide +kernel
theorem dX2_commit_72 : decode cX2_commit 72 = .ok (.iload_n 3, 1) := by decide +kernel
theorem dX2_commit_73 : decode cX2_commit 73 = .ok (.iconst 3, 1) := by decide +kernel
theorem dX2_commit_74 : decode cX2_commit 74 = .ok (.invokevirtual 57, 3) := by decide +kernel
theorem dX2_commit_77 : decode cX2_commit 77 = .ok (.aload_n 0, 1) := by decide +kernel
theorem dX2_commit_78 : decode cX2_commit 78 = .ok (.getfield 19, 3) := by decide +kernel
theorem dX2_commit_81 : decode cX2_commit 81 = .ok (.iload_n 3, 1) := by decide +kernel
theorem dX2_commit_82 : decode cX2_commit 82 = .ok (.iconst 4, 1) := by decide +kernel
theorem dX2_commit_83 : decode cX2_commit 83 = .ok (.invokevirtual 57, 3) := by decide +kernel
theorem dX2_commit_86 : decode cX2_commit 86 = .ok (.invokevirtual 39, 3) := by decide +kernel
theorem dX2_commit_89 : decode cX2_commit 89 = .ok (.istore 4, 2) := by decide +kernel
theorem dX2_commit_91 : decode cX2_commit 91 = .ok (.iload 4, 2) := by decide +kernel
theorem dX2_commit_93 : decode cX2_commit 93 = .ok (.ifCond .ge 14, 3) := by decide +kernel
theorem dX2_commit_96 : decode cX2_commit 96 = .ok (.aload_n 0, 1) := by decide +kernel
theorem dX2_commit_97 : decode cX2_commit 97 = .ok (.iload_n 3, 1) := by decide +kernel
theorem dX2_commit_98 : decode cX2_commit 98 = .ok (.putfield 23, 3) := by decide +kernel
theorem dX2_commit_101 : decode cX2_commit 101 = .ok (.iload 4, 2) := by decide +kernel
theorem dX2_commit_103 : decode cX2_commit 103 = .ok (.istore_n 2, 1) := by decide +kernel
theorem dX2_commit_104 : decode cX2_commit 104 = .ok (.goto 8, 3) := by decide +kernel
theorem dX2_commit_107 : decode cX2_commit 107 = .ok (.iload_n 1, 1) := by decide +kernel
theorem dX2_commit_108 : decode cX2_commit 108 = .ok (.iload 4, 2) := by decide +kernel
theorem dX2_commit_110 : decode cX2_commit 110 = .ok (.iadd, 1) := by decide +kernel
theorem dX2_commit_111 : decode cX2_commit 111 = .ok (.istore_n 1, 1) := by decide +kernel
theorem dX2_commit_112 : decode cX2_commit 112 = .ok (.iinc 3 1, 3) := by decide +kernel
theorem dX2_commit_115 : decode cX2_commit 115 = .ok (.goto (-97), 3) := by decide +kernel
theorem dX2_commit_118 : decode cX2_commit 118 = .ok (.aload_n 0, 1) := by decide +kernel
theorem dX2_commit_119 : decode cX2_commit 119 = .ok (.getfield 19, 3) := by decide +kernel
theorem dX2_commit_122 : decode cX2_commit 122 = .ok (.iconst 0, 1) := by decide +kernel
theorem dX2_commit_123 : decode cX2_commit 123 = .ok (.putfield 54, 3) := by decide +kernel
theorem dX2_commit_126 : decode cX2_commit 126 = .ok (.aload_n 0, 1) := by decide +kernel
theorem dX2_commit_127 : decode cX2_commit 127 = .ok (.getfield 23, 3) := by decide +kernel
theorem dX2_commit_130 : decode cX2_commit 130 = .ok (.iconst (-1), 1) := by decide +kernel
theorem dX2_commit_131 : decode cX2_commit 131 = .ok (.if_icmp .eq 14, 3) := by decide +kernel
theorem dX2_commit_134 : decode cX2_commit 134 = .ok (.aload_n 0, 1) := by decide +kernel
theorem dX2_commit_135 : decode cX2_commit 135 = .ok (.getfield 10, 3) := by decide +kernel
theorem dX2_commit_138 : decode cX2_commit 138 = .ok (.invokevirtual 43, 3) := by decide +kernel
theorem dX2_commit_141 : decode cX2_commit 141 = .ok (.iload_n 2, 1) := by decide +kernel
theorem dX2_commit_142 : decode cX2_commit 142 = .ok (.invokestatic 46, 3) := by decide +kernel
theorem dX2_commit_145 : decode cX2_commit 145 = .ok (.iload_n 1, 1) := by decide +kernel
theorem dX2_commit_146 : decode cX2_commit 146 = .ok (.ireturn, 1) := by decide +kernel
theorem dX2_failed_0 : decode cX2_failed 0 = .ok (.aload_n 0, 1) := by decide +kernel
theorem dX2_failed_1 : decode cX2_failed 1 = .ok (.getfield 23, 3) := by decide +kernel
theorem dX2_failed_4 : decode cX2_failed 4 = .ok (.ireturn, 1) := by decide +kernel
theorem dX2_value_0 : decode cX2_value 0 = .ok (.iload_n 1, 1) := by decide +kernel
theorem dX2_value_1 : decode cX2_value 1 = .ok (.invokestatic 61, 3) := by decide +kernel
theorem dX2_value_4 : decode cX2_value 4 = .ok (.ifCond .eq 18, 3) := by decide +kernel
theorem dX2_value_7 : decode cX2_value 7 = .ok (.iload_n 2, 1) := by decide +kernel
theorem dX2_value_8 : decode cX2_value 8 = .ok (.invokestatic 65, 3) := by decide +kernel
theorem dX2_value_11 : decode cX2_value 11 = .ok (.ifCond .eq 11, 3) := by decide +kernel
theorem dX2_value_14 : decode cX2_value 14 = .ok (.aload_n 0, 1) := by decide +kernel
theorem dX2_value_15 : decode cX2_value 15 = .ok (.iload_n 3, 1) := by decide +kernel
theorem dX2_value_16 : decode cX2_value 16 = .ok (.invokevirtual 68, 3) := by decide +kernel
theorem dX2_value_19 : decode cX2_value 19 = .ok (.ifCond .ne 11, 3) := by decide +kernel
theorem dX2_value_22 : decode cX2_value 22 = .ok (.new 71, 3) := by decide +kernel
theorem dX2_value_25 : decode cX2_value 25 = .ok (.dup, 1) := by decide +kernel
theorem dX2_value_26 : decode cX2_value 26 = .ok (.invokespecial 73, 3) := by decide +kernel
theorem dX2_value_29 : decode cX2_value 29 = .ok (.athrow, 1) := by decide +kernel
theorem dX2_value_30 : decode cX2_value 30 = .ok (.iload_n 3, 1) := by decide +kernel
theorem dX2_value_31 : decode cX2_value 31 = .ok (.iload_n 1, 1) := by decide +kernel
theorem dX2_value_32 : decode cX2_value 32 = .ok (.invokestatic 74, 3) := by decide +kernel
theorem dX2_value_35 : decode cX2_value 35 = .ok (.istore 4, 2) := by decide +kernel
theorem dX2_value_37 : decode cX2_value 37 = .ok (.aload_n 0, 1) := by decide +kernel
theorem dX2_value_38 : decode cX2_value 38 = .ok (.getfield 10, 3) := by decide +kernel
theorem dX2_value_41 : decode cX2_value 41 = .ok (.iload 4, 2) := by decide +kernel
theorem dX2_value_43 : decode cX2_value 43 = .ok (.iload_n 2, 1) := by decide +kernel
theorem dX2_value_44 : decode cX2_value 44 = .ok (.invokevirtual 77, 3) := by decide +kernel
theorem dX2_value_47 : decode cX2_value 47 = .ok (.ifCond .ne 11, 3) := by decide +kernel
theorem dX2_value_50 : decode cX2_value 50 = .ok (.new 81, 3) := by decide +kernel
theorem dX2_value_53 : decode cX2_value 53 = .ok (.dup, 1) := by decide +kernel
theorem dX2_value_54 : decode cX2_value 54 = .ok (.invokespecial 83, 3) := by decide +kernel
theorem dX2_value_57 : decode cX2_value 57 = .ok (.athrow, 1) := by decide +kernel
theorem dX2_value_58 : decode cX2_value 58 = .ok (.aload_n 0, 1) := by decide +kernel
theorem dX2_value_59 : decode cX2_value 59 = .ok (.getfield 10, 3) := by decide +kernel
theorem dX2_value_62 : decode cX2_value 62 = .ok (.iload 4, 2) := by decide +kernel
theorem dX2_value_64 : decode cX2_value 64 = .ok (.iload_n 2, 1) := by decide +kernel
theorem dX2_value_65 : decode cX2_value 65 = .ok (.invokevirtual 84, 3) := by decide +kernel
theorem dX2_value_68 : decode cX2_value 68 = .ok (.ireturn, 1) := by decide +kernel
theorem dX2_has_0 : decode cX2_has 0 = .ok (.iload_n 1, 1) := by decide +kernel
theorem dX2_has_1 : decode cX2_has 1 = .ok (.invokestatic 61, 3) := by decide +kernel
theorem dX2_has_4 : decode cX2_has 4 = .ok (.ifCond .eq 38, 3) := by decide +kernel
theorem dX2_has_7 : decode cX2_has 7 = .ok (.iload_n 2, 1) := by decide +kernel
theorem dX2_has_8 : decode cX2_has 8 = .ok (.invokestatic 65, 3) := by decide +kernel
theorem dX2_has_11 : decode cX2_has 11 = .ok (.ifCond .eq 31, 3) := by decide +kernel
theorem dX2_has_14 : decode cX2_has 14 = .ok (.aload_n 0, 1) := by decide +kernel
theorem dX2_has_15 : decode cX2_has 15 = .ok (.iload_n 3, 1) := by decide +kernel
theorem dX2_has_16 : decode cX2_has 16 = .ok (.invokevirtual 68, 3) := by decide +kernel
theorem dX2_has_19 : decode cX2_has 19 = .ok (.ifCond .eq 23, 3) := by decide +kernel
theorem dX2_has_22 : decode cX2_has 22 = .ok (.aload_n 0, 1) := by decide +kernel
theorem dX2_has_23 : decode cX2_has 23 = .ok (.getfield 10, 3) := by decide +kernel
theorem dX2_has_26 : decode cX2_has 26 = .ok (.iload_n 3, 1) := by decide +kernel
theorem dX2_has_27 : decode cX2_has 27 = .ok (.iload_n 1, 1) := by decide +kernel
theorem dX2_has_28 : decode cX2_has 28 = .ok (.invokestatic 74, 3) := by decide +kernel
theorem dX2_has_31 : decode cX2_has 31 = .ok (.iload_n 2, 1) := by decide +kernel
theorem dX2_has_32 : decode cX2_has 32 = .ok (.invokevirtual 77, 3) := by decide +kernel
theorem dX2_has_35 : decode cX2_has 35 = .ok (.ifCond .eq 7, 3) := by decide +kernel
theorem dX2_has_38 : decode cX2_has 38 = .ok (.iconst 1, 1) := by decide +kernel
theorem dX2_has_39 : decode cX2_has 39 = .ok (.goto 4, 3) := by decide +kernel
theorem dX2_has_42 : decode cX2_has 42 = .ok (.iconst 0, 1) := by decide +kernel
theorem dX2_has_43 : decode cX2_has 43 = .ok (.ireturn, 1) := by decide +kernel
theorem dX2_sum_0 : decode cX2_sum 0 = .ok (.iload_n 1, 1) := by decide +kernel
theorem dX2_sum_1 : decode cX2_sum 1 = .ok (.invokestatic 61, 3) := by decide +kernel
theorem dX2_sum_4 : decode cX2_sum 4 = .ok (.ifCond .eq 20, 3) := by decide +kernel
theorem dX2_sum_7 : decode cX2_sum 7 = .ok (.iload_n 2, 1) := by decide +kernel
theorem dX2_sum_8 : decode cX2_sum 8 = .ok (.iload_n 3, 1) := by decide +kernel
theorem dX2_sum_9 : decode cX2_sum 9 = .ok (.invokestatic 87, 3) := by decide +kernel
theorem dX2_sum_12 : decode cX2_sum 12 = .ok (.ifCond .eq 12, 3) := by decide +kernel
theorem dX2_sum_15 : decode cX2_sum 15 = .ok (.aload_n 0, 1) := by decide +kernel
theorem dX2_sum_16 : decode cX2_sum 16 = .ok (.iload 4, 2) := by decide +kernel
theorem dX2_sum_18 : decode cX2_sum 18 = .ok (.invokevirtual 68, 3) := by decide +kernel
theorem dX2_sum_21 : decode cX2_sum 21 = .ok (.ifCond .ne 11, 3) := by decide +kernel
theorem dX2_sum_24 : decode cX2_sum 24 = .ok (.new 71, 3) := by decide +kernel
theorem dX2_sum_27 : decode cX2_sum 27 = .ok (.dup, 1) := by decide +kernel
theorem dX2_sum_28 : decode cX2_sum 28 = .ok (.invokespecial 73, 3) := by decide +kernel
theorem dX2_sum_31 : decode cX2_sum 31 = .ok (.athrow, 1) := by decide +kernel
theorem dX2_sum_32 : decode cX2_sum 32 = .ok (.iload 4, 2) := by decide +kernel
theorem dX2_sum_34 : decode cX2_sum 34 = .ok (.iload_n 1, 1) := by decide +kernel
theorem dX2_sum_35 : decode cX2_sum 35 = .ok (.invokestatic 74, 3) := by decide +kernel
theorem dX2_sum_38 : decode cX2_sum 38 = .ok (.istore 5, 2) := by decide +kernel
theorem dX2_sum_40 : decode cX2_sum 40 = .ok (.lconst 0, 1) := by decide +kernel
theorem dX2_sum_41 : decode cX2_sum 41 = .ok (.lstore 6, 2) := by decide +kernel
theorem dX2_sum_43 : decode cX2_sum 43 = .ok (.iload_n 2, 1) := by decide +kernel
theorem dX2_sum_44 : decode cX2_sum 44 = .ok (.istore 8, 2) := by decide +kernel
theorem dX2_sum_46 : decode cX2_sum 46 = .ok (.iload 8, 2) := by decide +kernel
theorem dX2_sum_48 : decode cX2_sum 48 = .ok (.iload_n 3, 1) := by decide +kernel
theorem dX2_sum_49 : decode cX2_sum 49 = .ok (.if_icmp .ge 40, 3) := by decide +kernel
theorem dX2_sum_52 : decode cX2_sum 52 = .ok (.aload_n 0, 1) := by decide +kernel
theorem dX2_sum_53 : decode cX2_sum 53 = .ok (.getfield 10, 3) := by decide +kernel
theorem dX2_sum_56 : decode cX2_sum 56 = .ok (.iload 5, 2) := by decide +kernel
theorem dX2_sum_58 : decode cX2_sum 58 = .ok (.iload 8, 2) := by decide +kernel
theorem dX2_sum_60 : decode cX2_sum 60 = .ok (.invokevirtual 77, 3) := by decide +kernel
theorem dX2_sum_63 : decode cX2_sum 63 = .ok (.ifCond .eq 20, 3) := by decide +kernel
theorem dX2_sum_66 : decode cX2_sum 66 = .ok (.lload 6, 2) := by decide +kernel
theorem dX2_sum_68 : decode cX2_sum 68 = .ok (.aload_n 0, 1) := by decide +kernel
theorem dX2_sum_69 : decode cX2_sum 69 = .ok (.getfield 10, 3) := by decide +kernel
theorem dX2_sum_72 : decode cX2_sum 72 = .ok (.iload 5, 2) := by decide +kernel
theorem dX2_sum_74 : decode cX2_sum 74 = .ok (.iload 8, 2) := by decide +kernel
theorem dX2_sum_76 : decode cX2_sum 76 = .ok (.invokevirtual 84, 3) := by decide +kernel
theorem dX2_sum_79 : decode cX2_sum 79 = .ok (.i2l, 1) := by decide +kernel
theorem dX2_sum_80 : decode cX2_sum 80 = .ok (.ladd, 1) := by decide +kernel
theorem dX2_sum_81 : decode cX2_sum 81 = .ok (.lstore 6, 2) := by decide +kernel
theorem dX2_sum_83 : decode cX2_sum 83 = .ok (.iinc 8 1, 3) := by decide +kernel
theorem dX2_sum_86 : decode cX2_sum 86 = .ok (.goto (-40), 3) := by decide +kernel
theorem dX2_sum_89 : decode cX2_sum 89 = .ok (.lload 6, 2) := by decide +kernel
theorem dX2_sum_91 : decode cX2_sum 91 = .ok (.lreturn, 1) := by decide +kernel
theorem dX2_runs_0 : decode cX2_runs 0 = .ok (.iload_n 1, 1) := by decide +kernel
theorem dX2_runs_1 : decode cX2_runs 1 = .ok (.invokestatic 61, 3) := by decide +kernel
theorem dX2_runs_4 : decode cX2_runs 4 = .ok (.ifCond .eq 11, 3) := by decide +kernel
theorem dX2_runs_7 : decode cX2_runs 7 = .ok (.aload_n 0, 1) := by decide +kernel
theorem dX2_runs_8 : decode cX2_runs 8 = .ok (.iload_n 2, 1) := by decide +kernel
theorem dX2_runs_9 : decode cX2_runs 9 = .ok (.invokevirtual 68, 3) := by decide +kernel
theorem dX2_runs_12 : decode cX2_runs 12 = .ok (.ifCond .ne 11, 3) := by decide +kernel
theorem dX2_runs_15 : decode cX2_runs 15 = .ok (.new 71, 3) := by decide +kernel
theorem dX2_runs_18 : decode cX2_runs 18 = .ok (.dup, 1) := by decide +kernel
theorem dX2_runs_19 : decode cX2_runs 19 = .ok (.invokespecial 73, 3) := by decide +kernel
theorem dX2_runs_22 : decode cX2_runs 22 = .ok (.athrow, 1) := by decide +kernel
theorem dX2_runs_23 : decode cX2_runs 23 = .ok (.aload_n 0, 1) := by decide +kernel
theorem dX2_runs_24 : decode cX2_runs 24 = .ok (.getfield 10, 3) := by decide +kernel
theorem dX2_runs_27 : decode cX2_runs 27 = .ok (.iload_n 2, 1) := by decide +kernel
theorem dX2_runs_28 : decode cX2_runs 28 = .ok (.iload_n 1, 1) := by decide +kernel
theorem dX2_runs_29 : decode cX2_runs 29 = .ok (.invokestatic 74, 3) := by decide +kernel
theorem dX2_runs_32 : decode cX2_runs 32 = .ok (.invokevirtual 90, 3) := by decide +kernel
theorem dX2_runs_35 : decode cX2_runs 35 = .ok (.ireturn, 1) := by decide +kernel
theorem dX2_run_0 : decode cX2_run 0 = .ok (.iload_n 1, 1) := by decide +kernel
theorem dX2_run_1 : decode cX2_run 1 = .ok (.invokestatic 61, 3) := by decide +kernel
theorem dX2_run_4 : decode cX2_run 4 = .ok (.ifCond .eq 22, 3) := by decide +kernel
theorem dX2_run_7 : decode cX2_run 7 = .ok (.aload_n 0, 1) := by decide +kernel
theorem dX2_run_8 : decode cX2_run 8 = .ok (.iload_n 2, 1) := by decide +kernel
theorem dX2_run_9 : decode cX2_run 9 = .ok (.invokevirtual 68, 3) := by decide +kernel
theorem dX2_run_12 : decode cX2_run 12 = .ok (.ifCond .eq 14, 3) := by decide +kernel
theorem dX2_run_15 : decode cX2_run 15 = .ok (.iload 4, 2) := by decide +kernel
theorem dX2_run_17 : decode cX2_run 17 = .ok (.ifCond .lt 9, 3) := by decide +kernel
theorem dX2_run_20 : decode cX2_run 20 = .ok (.iload 4, 2) := by decide +kernel
theorem dX2_run_22 : decode cX2_run 22 = .ok (.iconst 2, 1) := by decide +kernel
theorem dX2_run_23 : decode cX2_run 23 = .ok (.if_icmp .le 11, 3) := by decide +kernel
theorem dX2_run_26 : decode cX2_run 26 = .ok (.new 71, 3) := by decide +kernel
theorem dX2_run_29 : decode cX2_run 29 = .ok (.dup, 1) := by decide +kernel
theorem dX2_run_30 : decode cX2_run 30 = .ok (.invokespecial 73, 3) := by decide +kernel
theorem dX2_run_33 : decode cX2_run 33 = .ok (.athrow, 1) := by decide +kernel
theorem dX2_run_34 : decode cX2_run 34 = .ok (.iload_n 2, 1) := by decide +kernel
theorem dX2_run_35 : decode cX2_run 35 = .ok (.iload_n 1, 1) := by decide +kernel
theorem dX2_run_36 : decode cX2_run 36 = .ok (.invokestatic 74, 3) := by decide +kernel
theorem dX2_run_39 : decode cX2_run 39 = .ok (.istore 5, 2) := by decide +kernel
theorem dX2_run_41 : decode cX2_run 41 = .ok (.iload_n 3, 1) := by decide +kernel
theorem dX2_run_42 : decode cX2_run 42 = .ok (.ifCond .lt 16, 3) := by decide +kernel
theorem dX2_run_45 : decode cX2_run 45 = .ok (.iload_n 3, 1) := by decide +kernel
theorem dX2_run_46 : decode cX2_run 46 = .ok (.aload_n 0, 1) := by decide +kernel
theorem dX2_run_47 : decode cX2_run 47 = .ok (.getfield 10, 3) := by decide +kernel
theorem dX2_run_50 : decode cX2_run 50 = .ok (.iload 5, 2) := by decide +kernel
theorem dX2_run_52 : decode cX2_run 52 = .ok (.invokevirtual 90, 3) := by decide +kernel
theorem dX2_run_55 : decode cX2_run 55 = .ok (.if_icmp .lt 11, 3) := by decide +kernel
theorem dX2_run_58 : decode cX2_run 58 = .ok (.new 94, 3) := by decide +kernel
theorem dX2_run_61 : decode cX2_run 61 = .ok (.dup, 1) := by decide +kernel
theorem dX2_run_62 : decode cX2_run 62 = .ok (.invokespecial 96, 3) := by decide +kernel
theorem dX2_run_65 : decode cX2_run 65 = .ok (.athrow, 1) := by decide +kernel
theorem dX2_run_66 : decode cX2_run 66 = .ok (.aload_n 0, 1) := by decide +kernel
theorem dX2_run_67 : decode cX2_run 67 = .ok (.getfield 10, 3) := by decide +kernel
theorem dX2_run_70 : decode cX2_run 70 = .ok (.iload 5, 2) := by decide +kernel
theorem dX2_run_72 : decode cX2_run 72 = .ok (.iload_n 3, 1) := by decide +kernel
theorem dX2_run_73 : decode cX2_run 73 = .ok (.invokevirtual 97, 3) := by decide +kernel
theorem dX2_run_76 : decode cX2_run 76 = .ok (.istore 6, 2) := by decide +kernel
theorem dX2_run_78 : decode cX2_run 78 = .ok (.iload 4, 2) := by decide +kernel
theorem dX2_run_80 : decode cX2_run 80 = .ok (.ifCond .ne 6, 3) := by decide +kernel
theorem dX2_run_83 : decode cX2_run 83 = .ok (.iload 6, 2) := by decide +kernel
theorem dX2_run_85 : decode cX2_run 85 = .ok (.ireturn, 1) := by decide +kernel
theorem dX2_run_86 : decode cX2_run 86 = .ok (.iload 4, 2) := by decide +kernel
theorem dX2_run_88 : decode cX2_run 88 = .ok (.iconst 1, 1) := by decide +kernel
theorem dX2_run_89 : decode cX2_run 89 = .ok (.if_icmp .ne 17, 3) := by decide +kernel
theorem dX2_run_92 : decode cX2_run 92 = .ok (.aload_n 0, 1) := by decide +kernel
theorem dX2_run_93 : decode cX2_run 93 = .ok (.getfield 10, 3) := by decide +kernel
theorem dX2_run_96 : decode cX2_run 96 = .ok (.iload 5, 2) := by decide +kernel
theorem dX2_run_98 : decode cX2_run 98 = .ok (.iload 6, 2) := by decide +kernel
theorem dX2_run_100 : decode cX2_run 100 = .ok (.invokevirtual 100, 3) := by decide +kernel
theorem dX2_run_103 : decode cX2_run 103 = .ok (.goto 14, 3) := by decide +kernel
theorem dX2_run_106 : decode cX2_run 106 = .ok (.aload_n 0, 1) := by decide +kernel
theorem dX2_run_107 : decode cX2_run 107 = .ok (.getfield 10, 3) := by decide +kernel
theorem dX2_run_110 : decode cX2_run 110 = .ok (.iload 5, 2) := by decide +kernel
theorem dX2_run_112 : decode cX2_run 112 = .ok (.iload 6, 2) := by decide +kernel
theorem dX2_run_114 : decode cX2_run 114 = .ok (.invokevirtual 84, 3) := by decide +kernel
theorem dX2_run_117 : decode cX2_run 117 = .ok (.ireturn, 1) := by decide +kernel
theorem dX2_rows_0 : decode cX2_rows 0 = .ok (.aload_n 0, 1) := by decide +kernel
theorem dX2_rows_1 : decode cX2_rows 1 = .ok (.getfield 10, 3) := by decide +kernel
theorem dX2_rows_4 : decode cX2_rows 4 = .ok (.invokevirtual 103, 3) := by decide +kernel
theorem dX2_rows_7 : decode cX2_rows 7 = .ok (.ireturn, 1) := by decide +kernel
theorem dX2_row_0 : decode cX2_row 0 = .ok (.iload_n 2, 1) := by decide +kernel
theorem dX2_row_1 : decode cX2_row 1 = .ok (.ifCond .lt 8, 3) := by decide +kernel
theorem dX2_row_4 : decode cX2_row 4 = .ok (.iload_n 2, 1) := by decide +kernel
theorem dX2_row_5 : decode cX2_row 5 = .ok (.iconst 5, 1) := by decide +kernel
theorem dX2_row_6 : decode cX2_row 6 = .ok (.if_icmp .le 11, 3) := by decide +kernel
theorem dX2_row_9 : decode cX2_row 9 = .ok (.new 71, 3) := by decide +kernel
theorem dX2_row_12 : decode cX2_row 12 = .ok (.dup, 1) := by decide +kernel
theorem dX2_row_13 : decode cX2_row 13 = .ok (.invokespecial 73, 3) := by decide +kernel
theorem dX2_row_16 : decode cX2_row 16 = .ok (.athrow, 1) := by decide +kernel
theorem dX2_row_17 : decode cX2_row 17 = .ok (.iload_n 1, 1) := by decide +kernel
theorem dX2_row_18 : decode cX2_row 18 = .ok (.ifCond .lt 14, 3) := by decide +kernel
theorem dX2_row_21 : decode cX2_row 21 = .ok (.iload_n 1, 1) := by decide +kernel
theorem dX2_row_22 : decode cX2_row 22 = .ok (.aload_n 0, 1) := by decide +kernel
theorem dX2_row_23 : decode cX2_row 23 = .ok (.getfield 10, 3) := by decide +kernel
theorem dX2_row_26 : decode cX2_row 26 = .ok (.invokevirtual 103, 3) := by decide +kernel
theorem dX2_row_29 : decode cX2_row 29 = .ok (.if_icmp .lt 11, 3) := by decide +kernel
theorem dX2_row_32 : decode cX2_row 32 = .ok (.new 94, 3) := by decide +kernel
theorem dX2_row_35 : decode cX2_row 35 = .ok (.dup, 1) := by decide +kernel
theorem dX2_row_36 : decode cX2_row 36 = .ok (.invokespecial 96, 3) := by decide +kernel
theorem dX2_row_39 : decode cX2_row 39 = .ok (.athrow, 1) := by decide +kernel
theorem dX2_row_40 : decode cX2_row 40 = .ok (.aload_n 0, 1) := by decide +kernel
theorem dX2_row_41 : decode cX2_row 41 = .ok (.getfield 10, 3) := by decide +kernel
theorem dX2_row_44 : decode cX2_row 44 = .ok (.iload_n 1, 1) := by decide +kernel
theorem dX2_row_45 : decode cX2_row 45 = .ok (.iload_n 2, 1) := by decide +kernel
theorem dX2_row_46 : decode cX2_row 46 = .ok (.invokevirtual 107, 3) := by decide +kernel
theorem dX2_row_49 : decode cX2_row 49 = .ok (.ireturn, 1) := by decide +kernel
theorem dX2_changes_0 : decode cX2_changes 0 = .ok (.iload_n 1, 1) := by decide +kernel
theorem dX2_changes_1 : decode cX2_changes 1 = .ok (.invokestatic 61, 3) := by decide +kernel
theorem dX2_changes_4 : decode cX2_changes 4 = .ok (.ifCond .eq 10, 3) := by decide +kernel
theorem dX2_changes_7 : decode cX2_changes 7 = .ok (.iload_n 2, 1) := by decide +kernel
theorem dX2_changes_8 : decode cX2_changes 8 = .ok (.invokestatic 65, 3) := by decide +kernel
theorem dX2_changes_11 : decode cX2_changes 11 = .ok (.ifCond .ne 11, 3) := by decide +kernel
theorem dX2_changes_14 : decode cX2_changes 14 = .ok (.new 71, 3) := by decide +kernel
theorem dX2_changes_17 : decode cX2_changes 17 = .ok (.dup, 1) := by decide +kernel
theorem dX2_changes_18 : decode cX2_changes 18 = .ok (.invokespecial 73, 3) := by decide +kernel
theorem dX2_changes_21 : decode cX2_changes 21 = .ok (.athrow, 1) := by decide +kernel
theorem dX2_changes_22 : decode cX2_changes 22 = .ok (.iconst 0, 1) := by decide +kernel
theorem dX2_changes_23 : decode cX2_changes 23 = .ok (.istore_n 3, 1) := by decide +kernel
theorem dX2_changes_24 : decode cX2_changes 24 = .ok (.iconst 1, 1) := by decide +kernel
theorem dX2_changes_25 : decode cX2_changes 25 = .ok (.istore 4, 2) := by decide +kernel
theorem dX2_changes_27 : decode cX2_changes 27 = .ok (.iload 4, 2) := by decide +kernel
theorem dX2_changes_29 : decode cX2_changes 29 = .ok (.aload_n 0, 1) := by decide +kernel
theorem dX2_changes_30 : decode cX2_changes 30 = .ok (.getfield 10, 3) := by decide +kernel
theorem dX2_changes_33 : decode cX2_changes 33 = .ok (.getfield 27, 3) := by decide +kernel
theorem dX2_changes_36 : decode cX2_changes 36 = .ok (.if_icmp .gt 37, 3) := by decide +kernel
theorem dX2_changes_39 : decode cX2_changes 39 = .ok (.aload_n 0, 1) := by decide +kernel
theorem dX2_changes_40 : decode cX2_changes 40 = .ok (.getfield 10, 3) := by decide +kernel
theorem dX2_changes_43 : decode cX2_changes 43 = .ok (.iload 4, 2) := by decide +kernel
theorem dX2_changes_45 : decode cX2_changes 45 = .ok (.iconst 1, 1) := by decide +kernel
theorem dX2_changes_46 : decode cX2_changes 46 = .ok (.isub, 1) := by decide +kernel
theorem dX2_changes_47 : decode cX2_changes 47 = .ok (.iload_n 1, 1) := by decide +kernel
theorem dX2_changes_48 : decode cX2_changes 48 = .ok (.invokestatic 74, 3) := by decide +kernel
theorem dX2_changes_51 : decode cX2_changes 51 = .ok (.iload 4, 2) := by decide +kernel
theorem dX2_changes_53 : decode cX2_changes 53 = .ok (.iload_n 1, 1) := by decide +kernel
theorem dX2_changes_54 : decode cX2_changes 54 = .ok (.invokestatic 74, 3) := by decide +kernel
theorem dX2_changes_57 : decode cX2_changes 57 = .ok (.iload_n 2, 1) := by decide +kernel
theorem dX2_changes_58 : decode cX2_changes 58 = .ok (.invokevirtual 110, 3) := by decide +kernel
theorem dX2_changes_61 : decode cX2_changes 61 = .ok (.ifCond .eq 6, 3) := by decide +kernel
theorem dX2_changes_64 : decode cX2_changes 64 = .ok (.iinc 3 1, 3) := by decide +kernel
theorem dX2_changes_67 : decode cX2_changes 67 = .ok (.iinc 4 1, 3) := by decide +kernel
theorem dX2_changes_70 : decode cX2_changes 70 = .ok (.goto (-43), 3) := by decide +kernel
theorem dX2_changes_73 : decode cX2_changes 73 = .ok (.iload_n 3, 1) := by decide +kernel
theorem dX2_changes_74 : decode cX2_changes 74 = .ok (.ireturn, 1) := by decide +kernel
theorem dX2_relation_0 : decode cX2_relation 0 = .ok (.iload_n 1, 1) := by decide +kernel
theorem dX2_relation_1 : decode cX2_relation 1 = .ok (.iload_n 2, 1) := by decide +kernel
theorem dX2_relation_2 : decode cX2_relation 2 = .ok (.invokestatic 87, 3) := by decide +kernel
theorem dX2_relation_5 : decode cX2_relation 5 = .ok (.ifCond .eq 12, 3) := by decide +kernel
theorem dX2_relation_8 : decode cX2_relation 8 = .ok (.iload_n 3, 1) := by decide +kernel
theorem dX2_relation_9 : decode cX2_relation 9 = .ok (.iload 4, 2) := by decide +kernel
theorem dX2_relation_11 : decode cX2_relation 11 = .ok (.invokestatic 87, 3) := by decide +kernel
theorem dX2_relation_14 : decode cX2_relation 14 = .ok (.ifCond .ne 11, 3) := by decide +kernel
theorem dX2_relation_17 : decode cX2_relation 17 = .ok (.new 71, 3) := by decide +kernel
theorem dX2_relation_20 : decode cX2_relation 20 = .ok (.dup, 1) := by decide +kernel
theorem dX2_relation_21 : decode cX2_relation 21 = .ok (.invokespecial 73, 3) := by decide +kernel
theorem dX2_relation_24 : decode cX2_relation 24 = .ok (.athrow, 1) := by decide +kernel
theorem dX2_relation_25 : decode cX2_relation 25 = .ok (.iload_n 1, 1) := by decide +kernel
theorem dX2_relation_26 : decode cX2_relation 26 = .ok (.iload_n 2, 1) := by decide +kernel
theorem dX2_relation_27 : decode cX2_relation 27 = .ok (.iload_n 3, 1) := by decide +kernel
theorem dX2_relation_28 : decode cX2_relation 28 = .ok (.iload 4, 2) := by decide +kernel
theorem dX2_relation_30 : decode cX2_relation 30 = .ok (.invokestatic 114, 3) := by decide +kernel
theorem dX2_relation_33 : decode cX2_relation 33 = .ok (.ireturn, 1) := by decide +kernel
theorem dX2_join_0 : decode cX2_join 0 = .ok (.iload_n 1, 1) := by decide +kernel
theorem dX2_join_1 : decode cX2_join 1 = .ok (.invokestatic 61, 3) := by decide +kernel
theorem dX2_join_4 : decode cX2_join 4 = .ok (.ifCond .eq 30, 3) := by decide +kernel
theorem dX2_join_7 : decode cX2_join 7 = .ok (.iload_n 2, 1) := by decide +kernel
theorem dX2_join_8 : decode cX2_join 8 = .ok (.invokestatic 61, 3) := by decide +kernel
theorem dX2_join_11 : decode cX2_join 11 = .ok (.ifCond .eq 23, 3) := by decide +kernel
theorem dX2_join_14 : decode cX2_join 14 = .ok (.aload_n 0, 1) := by decide +kernel
theorem dX2_join_15 : decode cX2_join 15 = .ok (.iload_n 3, 1) := by decide +kernel
theorem dX2_join_16 : decode cX2_join 16 = .ok (.invokevirtual 68, 3) := by decide +kernel
theorem dX2_join_19 : decode cX2_join 19 = .ok (.ifCond .eq 15, 3) := by decide +kernel
theorem dX2_join_22 : decode cX2_join 22 = .ok (.iload 4, 2) := by decide +kernel
theorem dX2_join_24 : decode cX2_join 24 = .ok (.ifCond .lt 10, 3) := by decide +kernel
theorem dX2_join_27 : decode cX2_join 27 = .ok (.iload 4, 2) := by decide +kernel
theorem dX2_join_29 : decode cX2_join 29 = .ok (.bipush 12, 2) := by decide +kernel
theorem dX2_join_31 : decode cX2_join 31 = .ok (.if_icmp .le 11, 3) := by decide +kernel
theorem dX2_join_34 : decode cX2_join 34 = .ok (.new 71, 3) := by decide +kernel
theorem dX2_join_37 : decode cX2_join 37 = .ok (.dup, 1) := by decide +kernel
theorem dX2_join_38 : decode cX2_join 38 = .ok (.invokespecial 73, 3) := by decide +kernel
theorem dX2_join_41 : decode cX2_join 41 = .ok (.athrow, 1) := by decide +kernel
theorem dX2_join_42 : decode cX2_join 42 = .ok (.iload_n 3, 1) := by decide +kernel
theorem dX2_join_43 : decode cX2_join 43 = .ok (.iload_n 1, 1) := by decide +kernel
theorem dX2_join_44 : decode cX2_join 44 = .ok (.invokestatic 74, 3) := by decide +kernel
theorem dX2_join_47 : decode cX2_join 47 = .ok (.istore 5, 2) := by decide +kernel
theorem dX2_join_49 : decode cX2_join 49 = .ok (.iconst 0, 1) := by decide +kernel
theorem dX2_join_50 : decode cX2_join 50 = .ok (.istore 6, 2) := by decide +kernel
theorem dX2_join_52 : decode cX2_join 52 = .ok (.iconst 0, 1) := by decide +kernel
theorem dX2_join_53 : decode cX2_join 53 = .ok (.istore 7, 2) := by decide +kernel
theorem dX2_join_55 : decode cX2_join 55 = .ok (.iload 7, 2) := by decide +kernel
theorem dX2_join_57 : decode cX2_join 57 = .ok (.bipush 32, 2) := by decide +kernel
theorem dX2_join_59 : decode cX2_join 59 = .ok (.if_icmp .ge 55, 3) := by decide +kernel
theorem dX2_join_62 : decode cX2_join 62 = .ok (.aload_n 0, 1) := by decide +kernel
theorem dX2_join_63 : decode cX2_join 63 = .ok (.getfield 10, 3) := by decide +kernel
theorem dX2_join_66 : decode cX2_join 66 = .ok (.iload 5, 2) := by decide +kernel
theorem dX2_join_68 : decode cX2_join 68 = .ok (.iload 7, 2) := by decide +kernel
theorem dX2_join_70 : decode cX2_join 70 = .ok (.invokevirtual 118, 3) := by decide +kernel
theorem dX2_join_73 : decode cX2_join 73 = .ok (.ifCond .eq 35, 3) := by decide +kernel
theorem dX2_join_76 : decode cX2_join 76 = .ok (.iload 6, 2) := by decide +kernel
theorem dX2_join_78 : decode cX2_join 78 = .ok (.aload_n 0, 1) := by decide +kernel
theorem dX2_join_79 : decode cX2_join 79 = .ok (.getfield 10, 3) := by decide +kernel
theorem dX2_join_82 : decode cX2_join 82 = .ok (.iload 7, 2) := by decide +kernel
theorem dX2_join_84 : decode cX2_join 84 = .ok (.aload_n 0, 1) := by decide +kernel
theorem dX2_join_85 : decode cX2_join 85 = .ok (.getfield 10, 3) := by decide +kernel
theorem dX2_join_88 : decode cX2_join 88 = .ok (.iload 5, 2) := by decide +kernel
theorem dX2_join_90 : decode cX2_join 90 = .ok (.iload 7, 2) := by decide +kernel
theorem dX2_join_92 : decode cX2_join 92 = .ok (.invokevirtual 100, 3) := by decide +kernel
theorem dX2_join_95 : decode cX2_join 95 = .ok (.iload_n 3, 1) := by decide +kernel
theorem dX2_join_96 : decode cX2_join 96 = .ok (.iload_n 2, 1) := by decide +kernel
theorem dX2_join_97 : decode cX2_join 97 = .ok (.invokestatic 74, 3) := by decide +kernel
theorem dX2_join_100 : decode cX2_join 100 = .ok (.iload 4, 2) := by decide +kernel
theorem dX2_join_102 : decode cX2_join 102 = .ok (.invokevirtual 121, 3) := by decide +kernel
theorem dX2_join_105 : decode cX2_join 105 = .ok (.iadd, 1) := by decide +kernel
theorem dX2_join_106 : decode cX2_join 106 = .ok (.istore 6, 2) := by decide +kernel
theorem dX2_join_108 : decode cX2_join 108 = .ok (.iinc 7 1, 3) := by decide +kernel
theorem dX2_join_111 : decode cX2_join 111 = .ok (.goto (-56), 3) := by decide +kernel
theorem dX2_join_114 : decode cX2_join 114 = .ok (.iload 6, 2) := by decide +kernel
theorem dX2_join_116 : decode cX2_join 116 = .ok (.ireturn, 1) := by decide +kernel
theorem dX2_refuse_0 : decode cX2_refuse 0 = .ok (.iload_n 0, 1) := by decide +kernel
theorem dX2_refuse_1 : decode cX2_refuse 1 = .ok (.iconst (-1), 1) := by decide +kernel
theorem dX2_refuse_2 : decode cX2_refuse 2 = .ok (.if_icmp .ne 11, 3) := by decide +kernel
theorem dX2_refuse_5 : decode cX2_refuse 5 = .ok (.new 71, 3) := by decide +kernel
theorem dX2_refuse_8 : decode cX2_refuse 8 = .ok (.dup, 1) := by decide +kernel
theorem dX2_refuse_9 : decode cX2_refuse 9 = .ok (.invokespecial 73, 3) := by decide +kernel
theorem dX2_refuse_12 : decode cX2_refuse 12 = .ok (.athrow, 1) := by decide +kernel
theorem dX2_refuse_13 : decode cX2_refuse 13 = .ok (.iload_n 0, 1) := by decide +kernel
theorem dX2_refuse_14 : decode cX2_refuse 14 = .ok (.bipush (-2), 2) := by decide +kernel
theorem dX2_refuse_16 : decode cX2_refuse 16 = .ok (.if_icmp .ne 11, 3) := by decide +kernel
theorem dX2_refuse_19 : decode cX2_refuse 19 = .ok (.new 81, 3) := by decide +kernel
theorem dX2_refuse_22 : decode cX2_refuse 22 = .ok (.dup, 1) := by decide +kernel
theorem dX2_refuse_23 : decode cX2_refuse 23 = .ok (.invokespecial 83, 3) := by decide +kernel
theorem dX2_refuse_26 : decode cX2_refuse 26 = .ok (.athrow, 1) := by decide +kernel
theorem dX2_refuse_27 : decode cX2_refuse 27 = .ok (.new 30, 3) := by decide +kernel
theorem dX2_refuse_30 : decode cX2_refuse 30 = .ok (.dup, 1) := by decide +kernel
theorem dX2_refuse_31 : decode cX2_refuse 31 = .ok (.invokespecial 32, 3) := by decide +kernel
theorem dX2_refuse_34 : decode cX2_refuse 34 = .ok (.athrow, 1) := by decide +kernel
theorem dX2_isKey_0 : decode cX2_isKey 0 = .ok (.iload_n 0, 1) := by decide +kernel
theorem dX2_isKey_1 : decode cX2_isKey 1 = .ok (.ifCond .lt 12, 3) := by decide +kernel
theorem dX2_isKey_4 : decode cX2_isKey 4 = .ok (.iload_n 0, 1) := by decide +kernel
theorem dX2_isKey_5 : decode cX2_isKey 5 = .ok (.iconst 4, 1) := by decide +kernel
theorem dX2_isKey_6 : decode cX2_isKey 6 = .ok (.if_icmp .ge 7, 3) := by decide +kernel
theorem dX2_isKey_9 : decode cX2_isKey 9 = .ok (.iconst 1, 1) := by decide +kernel
theorem dX2_isKey_10 : decode cX2_isKey 10 = .ok (.goto 4, 3) := by decide +kernel
theorem dX2_isKey_13 : decode cX2_isKey 13 = .ok (.iconst 0, 1) := by decide +kernel
theorem dX2_isKey_14 : decode cX2_isKey 14 = .ok (.ireturn, 1) := by decide +kernel
theorem dX2_isDay_0 : decode cX2_isDay 0 = .ok (.iload_n 0, 1) := by decide +kernel
theorem dX2_isDay_1 : decode cX2_isDay 1 = .ok (.ifCond .lt 13, 3) := by decide +kernel
theorem dX2_isDay_4 : decode cX2_isDay 4 = .ok (.iload_n 0, 1) := by decide +kernel
theorem dX2_isDay_5 : decode cX2_isDay 5 = .ok (.bipush 32, 2) := by decide +kernel
theorem dX2_isDay_7 : decode cX2_isDay 7 = .ok (.if_icmp .ge 7, 3) := by decide +kernel
theorem dX2_isDay_10 : decode cX2_isDay 10 = .ok (.iconst 1, 1) := by decide +kernel
theorem dX2_isDay_11 : decode cX2_isDay 11 = .ok (.goto 4, 3) := by decide +kernel
theorem dX2_isDay_14 : decode cX2_isDay 14 = .ok (.iconst 0, 1) := by decide +kernel
theorem dX2_isDay_15 : decode cX2_isDay 15 = .ok (.ireturn, 1) := by decide +kernel
theorem dX2_isPeriod_0 : decode cX2_isPeriod 0 = .ok (.iload_n 0, 1) := by decide +kernel
theorem dX2_isPeriod_1 : decode cX2_isPeriod 1 = .ok (.ifCond .lt 18, 3) := by decide +kernel
theorem dX2_isPeriod_4 : decode cX2_isPeriod 4 = .ok (.iload_n 0, 1) := by decide +kernel
theorem dX2_isPeriod_5 : decode cX2_isPeriod 5 = .ok (.iload_n 1, 1) := by decide +kernel
theorem dX2_isPeriod_6 : decode cX2_isPeriod 6 = .ok (.if_icmp .ge 13, 3) := by decide +kernel
theorem dX2_isPeriod_9 : decode cX2_isPeriod 9 = .ok (.iload_n 1, 1) := by decide +kernel
theorem dX2_isPeriod_10 : decode cX2_isPeriod 10 = .ok (.bipush 32, 2) := by decide +kernel
theorem dX2_isPeriod_12 : decode cX2_isPeriod 12 = .ok (.if_icmp .gt 7, 3) := by decide +kernel
theorem dX2_isPeriod_15 : decode cX2_isPeriod 15 = .ok (.iconst 1, 1) := by decide +kernel
theorem dX2_isPeriod_16 : decode cX2_isPeriod 16 = .ok (.goto 4, 3) := by decide +kernel
theorem dX2_isPeriod_19 : decode cX2_isPeriod 19 = .ok (.iconst 0, 1) := by decide +kernel
theorem dX2_isPeriod_20 : decode cX2_isPeriod 20 = .ok (.ireturn, 1) := by decide +kernel
theorem dX2_isTime_0 : decode cX2_isTime 0 = .ok (.iload_n 1, 1) := by decide +kernel
theorem dX2_isTime_1 : decode cX2_isTime 1 = .ok (.ifCond .lt 18, 3) := by decide +kernel
theorem dX2_isTime_4 : decode cX2_isTime 4 = .ok (.iload_n 1, 1) := by decide +kernel
theorem dX2_isTime_5 : decode cX2_isTime 5 = .ok (.aload_n 0, 1) := by decide +kernel
theorem dX2_isTime_6 : decode cX2_isTime 6 = .ok (.getfield 10, 3) := by decide +kernel
theorem dX2_isTime_9 : decode cX2_isTime 9 = .ok (.getfield 27, 3) := by decide +kernel
theorem dX2_isTime_12 : decode cX2_isTime 12 = .ok (.if_icmp .gt 7, 3) := by decide +kernel
theorem dX2_isTime_15 : decode cX2_isTime 15 = .ok (.iconst 1, 1) := by decide +kernel
theorem dX2_isTime_16 : decode cX2_isTime 16 = .ok (.goto 4, 3) := by decide +kernel
theorem dX2_isTime_19 : decode cX2_isTime 19 = .ok (.iconst 0, 1) := by decide +kernel
theorem dX2_isTime_20 : decode cX2_isTime 20 = .ok (.ireturn, 1) := by decide +kernel
theorem dX2_slotOf_0 : decode cX2_slotOf 0 = .ok (.iload_n 0, 1) := by decide +kernel
theorem dX2_slotOf_1 : decode cX2_slotOf 1 = .ok (.iconst 4, 1) := by decide +kernel
theorem dX2_slotOf_2 : decode cX2_slotOf 2 = .ok (.imul, 1) := by decide +kernel
theorem dX2_slotOf_3 : decode cX2_slotOf 3 = .ok (.iload_n 1, 1) := by decide +kernel
theorem dX2_slotOf_4 : decode cX2_slotOf 4 = .ok (.iadd, 1) := by decide +kernel
theorem dX2_slotOf_5 : decode cX2_slotOf 5 = .ok (.ireturn, 1) := by decide +kernel
theorem dX2_relationOf_0 : decode cX2_relationOf 0 = .ok (.iload_n 0, 1) := by decide +kernel
theorem dX2_relationOf_1 : decode cX2_relationOf 1 = .ok (.iload_n 1, 1) := by decide +kernel
theorem dX2_relationOf_2 : decode cX2_relationOf 2 = .ok (.iload_n 2, 1) := by decide +kernel
theorem dX2_relationOf_3 : decode cX2_relationOf 3 = .ok (.iload_n 3, 1) := by decide +kernel
theorem dX2_relationOf_4 : decode cX2_relationOf 4 = .ok (.invokestatic 124, 3) := by decide +kernel
theorem dX2_relationOf_7 : decode cX2_relationOf 7 = .ok (.istore 4, 2) := by decide +kernel
theorem dX2_relationOf_9 : decode cX2_relationOf 9 = .ok (.iload 4, 2) := by decide +kernel
theorem dX2_relationOf_11 : decode cX2_relationOf 11 = .ok (.iconst (-1), 1) := by decide +kernel
theorem dX2_relationOf_12 : decode cX2_relationOf 12 = .ok (.if_icmp .eq 8, 3) := by decide +kernel
theorem dX2_relationOf_15 : decode cX2_relationOf 15 = .ok (.iload 4, 2) := by decide +kernel
theorem dX2_relationOf_17 : decode cX2_relationOf 17 = .ok (.goto 13, 3) := by decide +kernel
theorem dX2_relationOf_20 : decode cX2_relationOf 20 = .ok (.bipush 12, 2) := by decide +kernel
theorem dX2_relationOf_22 : decode cX2_relationOf 22 = .ok (.iload_n 2, 1) := by decide +kernel
theorem dX2_relationOf_23 : decode cX2_relationOf 23 = .ok (.iload_n 3, 1) := by decide +kernel
theorem dX2_relationOf_24 : decode cX2_relationOf 24 = .ok (.iload_n 0, 1) := by decide +kernel
theorem dX2_relationOf_25 : decode cX2_relationOf 25 = .ok (.iload_n 1, 1) := by decide +kernel
theorem dX2_relationOf_26 : decode cX2_relationOf 26 = .ok (.invokestatic 124, 3) := by decide +kernel
theorem dX2_relationOf_29 : decode cX2_relationOf 29 = .ok (.isub, 1) := by decide +kernel
theorem dX2_relationOf_30 : decode cX2_relationOf 30 = .ok (.ireturn, 1) := by decide +kernel
theorem dX2_forwardRelation_0 : decode cX2_forwardRelation 0 = .ok (.iload_n 1, 1) := by decide +kernel
theorem dX2_forwardRelation_1 : decode cX2_forwardRelation 1 = .ok (.iload_n 2, 1) := by decide +kernel
theorem dX2_forwardRelation_2 : decode cX2_forwardRelation 2 = .ok (.if_icmp .gt 14, 3) := by decide +kernel
theorem dX2_forwardRelation_5 : decode cX2_forwardRelation 5 = .ok (.iload_n 1, 1) := by decide +kernel
theorem dX2_forwardRelation_6 : decode cX2_forwardRelation 6 = .ok (.iload_n 2, 1) := by decide +kernel
theorem dX2_forwardRelation_7 : decode cX2_forwardRelation 7 = .ok (.if_icmp .ge 7, 3) := by decide +kernel
theorem dX2_forwardRelation_10 : decode cX2_forwardRelation 10 = .ok (.iconst 0, 1) := by decide +kernel
theorem dX2_forwardRelation_11 : decode cX2_forwardRelation 11 = .ok (.goto 4, 3) := by decide +kernel
theorem dX2_forwardRelation_14 : decode cX2_forwardRelation 14 = .ok (.iconst 1, 1) := by decide +kernel
theorem dX2_forwardRelation_15 : decode cX2_forwardRelation 15 = .ok (.ireturn, 1) := by decide +kernel
theorem dX2_forwardRelation_16 : decode cX2_forwardRelation 16 = .ok (.iload_n 0, 1) := by decide +kernel
theorem dX2_forwardRelation_17 : decode cX2_forwardRelation 17 = .ok (.iload_n 2, 1) := by decide +kernel
theorem dX2_forwardRelation_18 : decode cX2_forwardRelation 18 = .ok (.if_icmp .ge 14, 3) := by decide +kernel
theorem dX2_forwardRelation_21 : decode cX2_forwardRelation 21 = .ok (.iload_n 1, 1) := by decide +kernel
theorem dX2_forwardRelation_22 : decode cX2_forwardRelation 22 = .ok (.iload_n 3, 1) := by decide +kernel
theorem dX2_forwardRelation_23 : decode cX2_forwardRelation 23 = .ok (.if_icmp .ge 7, 3) := by decide +kernel
theorem dX2_forwardRelation_26 : decode cX2_forwardRelation 26 = .ok (.iconst 2, 1) := by decide +kernel
theorem dX2_forwardRelation_27 : decode cX2_forwardRelation 27 = .ok (.goto 4, 3) := by decide +kernel
theorem dX2_forwardRelation_30 : decode cX2_forwardRelation 30 = .ok (.iconst (-1), 1) := by decide +kernel
theorem dX2_forwardRelation_31 : decode cX2_forwardRelation 31 = .ok (.ireturn, 1) := by decide +kernel
theorem dX2_forwardRelation_32 : decode cX2_forwardRelation 32 = .ok (.iload_n 1, 1) := by decide +kernel
theorem dX2_forwardRelation_33 : decode cX2_forwardRelation 33 = .ok (.iload_n 3, 1) := by decide +kernel
theorem dX2_forwardRelation_34 : decode cX2_forwardRelation 34 = .ok (.if_icmp .ge 14, 3) := by decide +kernel
theorem dX2_forwardRelation_37 : decode cX2_forwardRelation 37 = .ok (.iload_n 0, 1) := by decide +kernel
theorem dX2_forwardRelation_38 : decode cX2_forwardRelation 38 = .ok (.iload_n 2, 1) := by decide +kernel
theorem dX2_forwardRelation_39 : decode cX2_forwardRelation 39 = .ok (.if_icmp .ne 7, 3) := by decide +kernel
theorem dX2_forwardRelation_42 : decode cX2_forwardRelation 42 = .ok (.iconst 3, 1) := by decide +kernel
theorem dX2_forwardRelation_43 : decode cX2_forwardRelation 43 = .ok (.goto 4, 3) := by decide +kernel
theorem dX2_forwardRelation_46 : decode cX2_forwardRelation 46 = .ok (.iconst 4, 1) := by decide +kernel
theorem dX2_forwardRelation_47 : decode cX2_forwardRelation 47 = .ok (.ireturn, 1) := by decide +kernel
theorem dX2_forwardRelation_48 : decode cX2_forwardRelation 48 = .ok (.iload_n 1, 1) := by decide +kernel
theorem dX2_forwardRelation_49 : decode cX2_forwardRelation 49 = .ok (.iload_n 3, 1) := by decide +kernel
theorem dX2_forwardRelation_50 : decode cX2_forwardRelation 50 = .ok (.if_icmp .ne 15, 3) := by decide +kernel
theorem dX2_forwardRelation_53 : decode cX2_forwardRelation 53 = .ok (.iload_n 0, 1) := by decide +kernel
theorem dX2_forwardRelation_54 : decode cX2_forwardRelation 54 = .ok (.iload_n 2, 1) := by decide +kernel
theorem dX2_forwardRelation_55 : decode cX2_forwardRelation 55 = .ok (.if_icmp .le 7, 3) := by decide +kernel
theorem dX2_forwardRelation_58 : decode cX2_forwardRelation 58 = .ok (.iconst 5, 1) := by decide +kernel
theorem dX2_forwardRelation_59 : decode cX2_forwardRelation 59 = .ok (.goto 5, 3) := by decide +kernel
theorem dX2_forwardRelation_62 : decode cX2_forwardRelation 62 = .ok (.bipush 6, 2) := by decide +kernel
theorem dX2_forwardRelation_64 : decode cX2_forwardRelation 64 = .ok (.ireturn, 1) := by decide +kernel
theorem dX2_forwardRelation_65 : decode cX2_forwardRelation 65 = .ok (.iconst (-1), 1) := by decide +kernel
theorem dX2_forwardRelation_66 : decode cX2_forwardRelation 66 = .ok (.ireturn, 1) := by decide +kernel
end
section
theorem dX3_init_0 : decode cX3_init 0 = .ok (.aload_n 0, 1) := by decide +kernel
theorem dX3_init_1 : decode cX3_init 1 = .ok (.invokespecial 1, 3) := by decide +kernel
theorem dX3_init_4 : decode cX3_init 4 = .ok (.aload_n 0, 1) := by decide +kernel
theorem dX3_init_5 : decode cX3_init 5 = .ok (.sipush 5120, 3) := by decide +kernel
theorem dX3_init_8 : decode cX3_init 8 = .ok (.newarray .boolean, 2) := by decide +kernel
theorem dX3_init_10 : decode cX3_init 10 = .ok (.putfield 7, 3) := by decide +kernel
theorem dX3_init_13 : decode cX3_init 13 = .ok (.aload_n 0, 1) := by decide +kernel
theorem dX3_init_14 : decode cX3_init 14 = .ok (.sipush 5120, 3) := by decide +kernel
theorem dX3_init_17 : decode cX3_init 17 = .ok (.newarray .int, 2) := by decide +kernel
theorem dX3_init_19 : decode cX3_init 19 = .ok (.putfield 13, 3) := by decide +kernel
theorem dX3_init_22 : decode cX3_init 22 = .ok (.aload_n 0, 1) := by decide +kernel
theorem dX3_init_23 : decode cX3_init 23 = .ok (.sipush 128, 3) := by decide +kernel
theorem dX3_init_26 : decode cX3_init 26 = .ok (.newarray .boolean, 2) := by decide +kernel
theorem dX3_init_28 : decode cX3_init 28 = .ok (.putfield 17, 3) := by decide +kernel
theorem dX3_init_31 : decode cX3_init 31 = .ok (.aload_n 0, 1) := by decide +kernel
theorem dX3_init_32 : decode cX3_init 32 = .ok (.sipush 128, 3) := by decide +kernel
theorem dX3_init_35 : decode cX3_init 35 = .ok (.newarray .int, 2) := by decide +kernel
theorem dX3_init_37 : decode cX3_init 37 = .ok (.putfield 20, 3) := by decide +kernel
theorem dX3_init_40 : decode cX3_init 40 = .ok (.aload_n 0, 1) := by decide +kernel
theorem dX3_init_41 : decode cX3_init 41 = .ok (.bipush 40, 2) := by decide +kernel
theorem dX3_init_43 : decode cX3_init 43 = .ok (.newarray .int, 2) := by decide +kernel
theorem dX3_init_45 : decode cX3_init 45 = .ok (.putfield 23, 3) := by decide +kernel
theorem dX3_init_48 : decode cX3_init 48 = .ok (.aload_n 0, 1) := by decide +kernel
theorem dX3_init_49 : decode cX3_init 49 = .ok (.iconst (-1), 1) := by decide +kernel
theorem dX3_init_50 : decode cX3_init 50 = .ok (.putfield 26, 3) := by decide +kernel
theorem dX3_init_53 : decode cX3_init 53 = .ok (.return_, 1) := by decide +kernel
theorem dX3_thrown_0 : decode cX3_thrown 0 = .ok (.aload_n 0, 1) := by decide +kernel
theorem dX3_thrown_1 : decode cX3_thrown 1 = .ok (.getfield 30, 3) := by decide +kernel
theorem dX3_thrown_4 : decode cX3_thrown 4 = .ok (.ireturn, 1) := by decide +kernel
theorem dX3_fail_0 : decode cX3_fail 0 = .ok (.aload_n 0, 1) := by decide +kernel
theorem dX3_fail_1 : decode cX3_fail 1 = .ok (.iload_n 1, 1) := by decide +kernel
theorem dX3_fail_2 : decode cX3_fail 2 = .ok (.putfield 30, 3) := by decide +kernel
theorem dX3_fail_5 : decode cX3_fail 5 = .ok (.iconst 0, 1) := by decide +kernel
theorem dX3_fail_6 : decode cX3_fail 6 = .ok (.ireturn, 1) := by decide +kernel
theorem dX3_isKey_0 : decode cX3_isKey 0 = .ok (.iload_n 0, 1) := by decide +kernel
theorem dX3_isKey_1 : decode cX3_isKey 1 = .ok (.ifCond .lt 12, 3) := by decide +kernel
theorem dX3_isKey_4 : decode cX3_isKey 4 = .ok (.iload_n 0, 1) := by decide +kernel
theorem dX3_isKey_5 : decode cX3_isKey 5 = .ok (.iconst 3, 1) := by decide +kernel
theorem dX3_isKey_6 : decode cX3_isKey 6 = .ok (.if_icmp .gt 7, 3) := by decide +kernel
theorem dX3_isKey_9 : decode cX3_isKey 9 = .ok (.iconst 1, 1) := by decide +kernel
theorem dX3_isKey_10 : decode cX3_isKey 10 = .ok (.goto 4, 3) := by decide +kernel
theorem dX3_isKey_13 : decode cX3_isKey 13 = .ok (.iconst 0, 1) := by decide +kernel
theorem dX3_isKey_14 : decode cX3_isKey 14 = .ok (.ireturn, 1) := by decide +kernel
theorem dX3_isPeriod_0 : decode cX3_isPeriod 0 = .ok (.iload_n 0, 1) := by decide +kernel
theorem dX3_isPeriod_1 : decode cX3_isPeriod 1 = .ok (.ifCond .lt 18, 3) := by decide +kernel
theorem dX3_isPeriod_4 : decode cX3_isPeriod 4 = .ok (.iload_n 0, 1) := by decide +kernel
theorem dX3_isPeriod_5 : decode cX3_isPeriod 5 = .ok (.iload_n 1, 1) := by decide +kernel
theorem dX3_isPeriod_6 : decode cX3_isPeriod 6 = .ok (.if_icmp .ge 13, 3) := by decide +kernel
theorem dX3_isPeriod_9 : decode cX3_isPeriod 9 = .ok (.iload_n 1, 1) := by decide +kernel
theorem dX3_isPeriod_10 : decode cX3_isPeriod 10 = .ok (.bipush 32, 2) := by decide +kernel
theorem dX3_isPeriod_12 : decode cX3_isPeriod 12 = .ok (.if_icmp .gt 7, 3) := by decide +kernel
theorem dX3_isPeriod_15 : decode cX3_isPeriod 15 = .ok (.iconst 1, 1) := by decide +kernel
theorem dX3_isPeriod_16 : decode cX3_isPeriod 16 = .ok (.goto 4, 3) := by decide +kernel
theorem dX3_isPeriod_19 : decode cX3_isPeriod 19 = .ok (.iconst 0, 1) := by decide +kernel
theorem dX3_isPeriod_20 : decode cX3_isPeriod 20 = .ok (.ireturn, 1) := by decide +kernel
theorem dX3_isTime_0 : decode cX3_isTime 0 = .ok (.iload_n 1, 1) := by decide +kernel
theorem dX3_isTime_1 : decode cX3_isTime 1 = .ok (.ifCond .lt 15, 3) := by decide +kernel
theorem dX3_isTime_4 : decode cX3_isTime 4 = .ok (.iload_n 1, 1) := by decide +kernel
theorem dX3_isTime_5 : decode cX3_isTime 5 = .ok (.aload_n 0, 1) := by decide +kernel
theorem dX3_isTime_6 : decode cX3_isTime 6 = .ok (.getfield 33, 3) := by decide +kernel
theorem dX3_isTime_9 : decode cX3_isTime 9 = .ok (.if_icmp .gt 7, 3) := by decide +kernel
theorem dX3_isTime_12 : decode cX3_isTime 12 = .ok (.iconst 1, 1) := by decide +kernel
theorem dX3_isTime_13 : decode cX3_isTime 13 = .ok (.goto 4, 3) := by decide +kernel
theorem dX3_isTime_16 : decode cX3_isTime 16 = .ok (.iconst 0, 1) := by decide +kernel
theorem dX3_isTime_17 : decode cX3_isTime 17 = .ok (.ireturn, 1) := by decide +kernel
theorem dX3_place_0 : decode cX3_place 0 = .ok (.sipush 128, 3) := by decide +kernel
theorem dX3_place_3 : decode cX3_place 3 = .ok (.iload_n 0, 1) := by decide +kernel
theorem dX3_place_4 : decode cX3_place 4 = .ok (.imul, 1) := by decide +kernel
theorem dX3_place_5 : decode cX3_place 5 = .ok (.bipush 32, 2) := by decide +kernel
theorem dX3_place_7 : decode cX3_place 7 = .ok (.iload_n 1, 1) := by decide +kernel
theorem dX3_place_8 : decode cX3_place 8 = .ok (.imul, 1) := by decide +kernel
theorem dX3_place_9 : decode cX3_place 9 = .ok (.iadd, 1) := by decide +kernel
theorem dX3_place_10 : decode cX3_place 10 = .ok (.iload_n 2, 1) := by decide +kernel
theorem dX3_place_11 : decode cX3_place 11 = .ok (.iadd, 1) := by decide +kernel
theorem dX3_place_12 : decode cX3_place 12 = .ok (.ireturn, 1) := by decide +kernel
theorem dX3_tick_0 : decode cX3_tick 0 = .ok (.aload_n 0, 1) := by decide +kernel
theorem dX3_tick_1 : decode cX3_tick 1 = .ok (.getfield 33, 3) := by decide +kernel
theorem dX3_tick_4 : decode cX3_tick 4 = .ok (.bipush 39, 2) := by decide +kernel
theorem dX3_tick_6 : decode cX3_tick 6 = .ok (.if_icmp .ne 9, 3) := by decide +kernel
theorem dX3_tick_9 : decode cX3_tick 9 = .ok (.aload_n 0, 1) := by decide +kernel
theorem dX3_tick_10 : decode cX3_tick 10 = .ok (.iconst 1, 1) := by decide +kernel
theorem dX3_tick_11 : decode cX3_tick 11 = .ok (.invokevirtual 36, 3) := by decide +kernel
theorem dX3_tick_14 : decode cX3_tick 14 = .ok (.ireturn, 1) := by decide +kernel
theorem dX3_tick_15 : decode cX3_tick 15 = .ok (.aload_n 0, 1) := by decide +kernel
theorem dX3_tick_16 : decode cX3_tick 16 = .ok (.iconst 0, 1) := by decide +kernel
theorem dX3_tick_17 : decode cX3_tick 17 = .ok (.putfield 30, 3) := by decide +kernel
theorem dX3_tick_20 : decode cX3_tick 20 = .ok (.iconst 0, 1) := by decide +kernel
theorem dX3_tick_21 : decode cX3_tick 21 = .ok (.istore_n 1, 1) := by decide +kernel
theorem dX3_tick_22 : decode cX3_tick 22 = .ok (.iload_n 1, 1) := by decide +kernel
theorem dX3_tick_23 : decode cX3_tick 23 = .ok (.sipush 128, 3) := by decide +kernel
theorem dX3_tick_26 : decode cX3_tick 26 = .ok (.if_icmp .ge 77, 3) := by decide +kernel
theorem dX3_tick_29 : decode cX3_tick 29 = .ok (.aload_n 0, 1) := by decide +kernel
theorem dX3_tick_30 : decode cX3_tick 30 = .ok (.getfield 7, 3) := by decide +kernel
theorem dX3_tick_33 : decode cX3_tick 33 = .ok (.sipush 128, 3) := by decide +kernel
theorem dX3_tick_36 : decode cX3_tick 36 = .ok (.aload_n 0, 1) := by decide +kernel
theorem dX3_tick_37 : decode cX3_tick 37 = .ok (.getfield 33, 3) := by decide +kernel
theorem dX3_tick_40 : decode cX3_tick 40 = .ok (.imul, 1) := by decide +kernel
theorem dX3_tick_41 : decode cX3_tick 41 = .ok (.sipush 128, 3) := by decide +kernel
theorem dX3_tick_44 : decode cX3_tick 44 = .ok (.iadd, 1) := by decide +kernel
theorem dX3_tick_45 : decode cX3_tick 45 = .ok (.iload_n 1, 1) := by decide +kernel
theorem dX3_tick_46 : decode cX3_tick 46 = .ok (.iadd, 1) := by decide +kernel
theorem dX3_tick_47 : decode cX3_tick 47 = .ok (.aload_n 0, 1) := by decide +kernel
theorem dX3_tick_48 : decode cX3_tick 48 = .ok (.getfield 7, 3) := by decide +kernel
theorem dX3_tick_51 : decode cX3_tick 51 = .ok (.sipush 128, 3) := by decide +kernel
theorem dX3_tick_54 : decode cX3_tick 54 = .ok (.aload_n 0, 1) := by decide +kernel
theorem dX3_tick_55 : decode cX3_tick 55 = .ok (.getfield 33, 3) := by decide +kernel
theorem dX3_tick_58 : decode cX3_tick 58 = .ok (.imul, 1) := by decide +kernel
theorem dX3_tick_59 : decode cX3_tick 59 = .ok (.iload_n 1, 1) := by decide +kernel
theorem dX3_tick_60 : decode cX3_tick 60 = .ok (.iadd, 1) := by decide +kernel
theorem dX3_tick_61 : decode cX3_tick 61 = .ok (.baload, 1) := by decide +kernel
theorem dX3_tick_62 : decode cX3_tick 62 = .ok (.bastore, 1) := by decide +kernel
theorem dX3_tick_63 : decode cX3_tick 63 = .ok (.aload_n 0, 1) := by decide +kernel
theorem dX3_tick_64 : decode cX3_tick 64 = .ok (.getfield 13, 3) := by decide +kernel
theorem dX3_tick_67 : decode cX3_tick 67 = .ok (.sipush 128, 3) := by decide +kernel
theorem dX3_tick_70 : decode cX3_tick 70 = .ok (.aload_n 0, 1) := by decide +kernel
theorem dX3_tick_71 : decode cX3_tick 71 = .ok (.getfield 33, 3) := by decide +kernel
theorem dX3_tick_74 : decode cX3_tick 74 = .ok (.imul, 1) := by decide +kernel
theorem dX3_tick_75 : decode cX3_tick 75 = .ok (.sipush 128, 3) := by decide +kernel
theorem dX3_tick_78 : decode cX3_tick 78 = .ok (.iadd, 1) := by decide +kernel
theorem dX3_tick_79 : decode cX3_tick 79 = .ok (.iload_n 1, 1) := by decide +kernel
theorem dX3_tick_80 : decode cX3_tick 80 = .ok (.iadd, 1) := by decide +kernel
theorem dX3_tick_81 : decode cX3_tick 81 = .ok (.aload_n 0, 1) := by decide +kernel
theorem dX3_tick_82 : decode cX3_tick 82 = .ok (.getfield 13, 3) := by decide +kernel
theorem dX3_tick_85 : decode cX3_tick 85 = .ok (.sipush 128, 3) := by decide +kernel
theorem dX3_tick_88 : decode cX3_tick 88 = .ok (.aload_n 0, 1) := by decide +kernel
theorem dX3_tick_89 : decode cX3_tick 89 = .ok (.getfield 33, 3) := by decide +kernel
theorem dX3_tick_92 : decode cX3_tick 92 = .ok (.imul, 1) := by decide +kernel
theorem dX3_tick_93 : decode cX3_tick 93 = .ok (.iload_n 1, 1) := by decide +kernel
theorem dX3_tick_94 : decode cX3_tick 94 = .ok (.iadd, 1) := by decide +kernel
theorem dX3_tick_95 : decode cX3_tick 95 = .ok (.iaload, 1) := by decide +kernel
theorem dX3_tick_96 : decode cX3_tick 96 = .ok (.iastore, 1) := by decide +kernel
theorem dX3_tick_97 : decode cX3_tick 97 = .ok (.iinc 1 1, 3) := by decide +kernel
theorem dX3_tick_100 : decode cX3_tick 100 = .ok (.goto (-78), 3) := by decide +kernel
theorem dX3_tick_103 : decode cX3_tick 103 = .ok (.aload_n 0, 1) := by decide +kernel
theorem dX3_tick_104 : decode cX3_tick 104 = .ok (.dup, 1) := by decide +kernel
theorem dX3_tick_105 : decode cX3_tick 105 = .ok (.getfield 33, 3) := by decide +kernel
theorem dX3_tick_108 : decode cX3_tick 108 = .ok (.iconst 1, 1) := by decide +kernel
theorem dX3_tick_109 : decode cX3_tick 109 = .ok (.iadd, 1) := by decide +kernel
theorem dX3_tick_110 : decode cX3_tick 110 = .ok (.putfield 33, 3) := by decide +kernel
theorem dX3_tick_113 : decode cX3_tick 113 = .ok (.aload_n 0, 1) := by decide +kernel
theorem dX3_tick_114 : decode cX3_tick 114 = .ok (.getfield 33, 3) := by decide +kernel
theorem dX3_tick_117 : decode cX3_tick 117 = .ok (.ireturn, 1) := by decide +kernel
theorem dX3_clock_0 : decode cX3_clock 0 = .ok (.aload_n 0, 1) := by decide +kernel
theorem dX3_clock_1 : decode cX3_clock 1 = .ok (.iconst 0, 1) := by decide +kernel
theorem dX3_clock_2 : decode cX3_clock 2 = .ok (.putfield 30, 3) := by decide +kernel
theorem dX3_clock_5 : decode cX3_clock 5 = .ok (.aload_n 0, 1) := by decide +kernel
theorem dX3_clock_6 : decode cX3_clock 6 = .ok (.getfield 33, 3) := by decide +kernel
theorem dX3_clock_9 : decode cX3_clock 9 = .ok (.ireturn, 1) := by decide +kernel
theorem dX3_alike_0 : decode cX3_alike 0 = .ok (.iload_n 1, 1) := by decide +kernel
theorem dX3_alike_1 : decode cX3_alike 1 = .ok (.iload_n 2, 1) := by decide +kernel
theorem dX3_alike_2 : decode cX3_alike 2 = .ok (.iload_n 3, 1) := by decide +kernel
theorem dX3_alike_3 : decode cX3_alike 3 = .ok (.invokestatic 40, 3) := by decide +kernel
theorem dX3_alike_6 : decode cX3_alike 6 = .ok (.istore 5, 2) := by decide +kernel
theorem dX3_alike_8 : decode cX3_alike 8 = .ok (.iload_n 1, 1) := by decide +kernel
theorem dX3_alike_9 : decode cX3_alike 9 = .ok (.iload_n 2, 1) := by decide +kernel
theorem dX3_alike_10 : decode cX3_alike 10 = .ok (.iload 4, 2) := by decide +kernel
theorem dX3_alike_12 : decode cX3_alike 12 = .ok (.invokestatic 40, 3) := by decide +kernel
theorem dX3_alike_15 : decode cX3_alike 15 = .ok (.istore 6, 2) := by decide +kernel
theorem dX3_alike_17 : decode cX3_alike 17 = .ok (.aload_n 0, 1) := by decide +kernel
theorem dX3_alike_18 : decode cX3_alike 18 = .ok (.getfield 7, 3) := by decide +kernel
theorem dX3_alike_21 : decode cX3_alike 21 = .ok (.iload 5, 2) := by decide +kernel
theorem dX3_alike_23 : decode cX3_alike 23 = .ok (.baload, 1) := by decide +kernel
theorem dX3_alike_24 : decode cX3_alike 24 = .ok (.ifCond .eq 34, 3) := by decide +kernel
theorem dX3_alike_27 : decode cX3_alike 27 = .ok (.aload_n 0, 1) := by decide +kernel
theorem dX3_alike_28 : decode cX3_alike 28 = .ok (.getfield 7, 3) := by decide +kernel
theorem dX3_alike_31 : decode cX3_alike 31 = .ok (.iload 6, 2) := by decide +kernel
theorem dX3_alike_33 : decode cX3_alike 33 = .ok (.baload, 1) := by decide +kernel
theorem dX3_alike_34 : decode cX3_alike 34 = .ok (.ifCond .eq 24, 3) := by decide +kernel
theorem dX3_alike_37 : decode cX3_alike 37 = .ok (.aload_n 0, 1) := by decide +kernel
theorem dX3_alike_38 : decode cX3_alike 38 = .ok (.getfield 13, 3) := by decide +kernel
theorem dX3_alike_41 : decode cX3_alike 41 = .ok (.iload 5, 2) := by decide +kernel
theorem dX3_alike_43 : decode cX3_alike 43 = .ok (.iaload, 1) := by decide +kernel
theorem dX3_alike_44 : decode cX3_alike 44 = .ok (.aload_n 0, 1) := by decide +kernel
theorem dX3_alike_45 : decode cX3_alike 45 = .ok (.getfield 13, 3) := by decide +kernel
theorem dX3_alike_48 : decode cX3_alike 48 = .ok (.iload 6, 2) := by decide +kernel
theorem dX3_alike_50 : decode cX3_alike 50 = .ok (.iaload, 1) := by decide +kernel
theorem dX3_alike_51 : decode cX3_alike 51 = .ok (.if_icmp .ne 7, 3) := by decide +kernel
theorem dX3_alike_54 : decode cX3_alike 54 = .ok (.iconst 1, 1) := by decide +kernel
theorem dX3_alike_55 : decode cX3_alike 55 = .ok (.goto 4, 3) := by decide +kernel
theorem dX3_alike_58 : decode cX3_alike 58 = .ok (.iconst 0, 1) := by decide +kernel
theorem dX3_alike_59 : decode cX3_alike 59 = .ok (.ireturn, 1) := by decide +kernel
theorem dX3_begins_0 : decode cX3_begins 0 = .ok (.aload_n 0, 1) := by decide +kernel
theorem dX3_begins_1 : decode cX3_begins 1 = .ok (.getfield 7, 3) := by decide +kernel
theorem dX3_begins_4 : decode cX3_begins 4 = .ok (.iload_n 1, 1) := by decide +kernel
theorem dX3_begins_5 : decode cX3_begins 5 = .ok (.iload_n 2, 1) := by decide +kernel
theorem dX3_begins_6 : decode cX3_begins 6 = .ok (.iload_n 3, 1) := by decide +kernel
theorem dX3_begins_7 : decode cX3_begins 7 = .ok (.invokestatic 40, 3) := by decide +kernel
theorem dX3_begins_10 : decode cX3_begins 10 = .ok (.baload, 1) := by decide +kernel
theorem dX3_begins_11 : decode cX3_begins 11 = .ok (.ifCond .eq 24, 3) := by decide +kernel
theorem dX3_begins_14 : decode cX3_begins 14 = .ok (.iload_n 3, 1) := by decide +kernel
theorem dX3_begins_15 : decode cX3_begins 15 = .ok (.ifCond .eq 16, 3) := by decide +kernel
theorem dX3_begins_18 : decode cX3_begins 18 = .ok (.aload_n 0, 1) := by decide +kernel
theorem dX3_begins_19 : decode cX3_begins 19 = .ok (.iload_n 1, 1) := by decide +kernel
theorem dX3_begins_20 : decode cX3_begins 20 = .ok (.iload_n 2, 1) := by decide +kernel
theorem dX3_begins_21 : decode cX3_begins 21 = .ok (.iload_n 3, 1) := by decide +kernel
theorem dX3_begins_22 : decode cX3_begins 22 = .ok (.iconst 1, 1) := by decide +kernel
theorem dX3_begins_23 : decode cX3_begins 23 = .ok (.isub, 1) := by decide +kernel
theorem dX3_begins_24 : decode cX3_begins 24 = .ok (.iload_n 3, 1) := by decide +kernel
theorem dX3_begins_25 : decode cX3_begins 25 = .ok (.invokevirtual 44, 3) := by decide +kernel
theorem dX3_begins_28 : decode cX3_begins 28 = .ok (.ifCond .ne 7, 3) := by decide +kernel
theorem dX3_begins_31 : decode cX3_begins 31 = .ok (.iconst 1, 1) := by decide +kernel
theorem dX3_begins_32 : decode cX3_begins 32 = .ok (.goto 4, 3) := by decide +kernel
theorem dX3_begins_35 : decode cX3_begins 35 = .ok (.iconst 0, 1) := by decide +kernel
theorem dX3_begins_36 : decode cX3_begins 36 = .ok (.ireturn, 1) := by decide +kernel
theorem dX3_endOf_0 : decode cX3_endOf 0 = .ok (.iload_n 3, 1) := by decide +kernel
theorem dX3_endOf_1 : decode cX3_endOf 1 = .ok (.iconst 1, 1) := by decide +kernel
theorem dX3_endOf_2 : decode cX3_endOf 2 = .ok (.iadd, 1) := by decide +kernel
theorem dX3_endOf_3 : decode cX3_endOf 3 = .ok (.istore 4, 2) := by decide +kernel
theorem dX3_endOf_5 : decode cX3_endOf 5 = .ok (.iload 4, 2) := by decide +kernel
theorem dX3_endOf_7 : decode cX3_endOf 7 = .ok (.bipush 32, 2) := by decide +kernel
theorem dX3_endOf_9 : decode cX3_endOf 9 = .ok (.if_icmp .ge 21, 3) := by decide +kernel
theorem dX3_endOf_12 : decode cX3_endOf 12 = .ok (.aload_n 0, 1) := by decide +kernel
theorem dX3_endOf_13 : decode cX3_endOf 13 = .ok (.iload_n 1, 1) := by decide +kernel
theorem dX3_endOf_14 : decode cX3_endOf 14 = .ok (.iload_n 2, 1) := by decide +kernel
theorem dX3_endOf_15 : decode cX3_endOf 15 = .ok (.iload_n 3, 1) := by decide +kernel
theorem dX3_endOf_16 : decode cX3_endOf 16 = .ok (.iload 4, 2) := by decide +kernel
theorem dX3_endOf_18 : decode cX3_endOf 18 = .ok (.invokevirtual 44, 3) := by decide +kernel
theorem dX3_endOf_21 : decode cX3_endOf 21 = .ok (.ifCond .eq 9, 3) := by decide +kernel
theorem dX3_endOf_24 : decode cX3_endOf 24 = .ok (.iinc 4 1, 3) := by decide +kernel
theorem dX3_endOf_27 : decode cX3_endOf 27 = .ok (.goto (-22), 3) := by decide +kernel
theorem dX3_endOf_30 : decode cX3_endOf 30 = .ok (.iload 4, 2) := by decide +kernel
theorem dX3_endOf_32 : decode cX3_endOf 32 = .ok (.ireturn, 1) := by decide +kernel
theorem dX3_isRun_0 : decode cX3_isRun 0 = .ok (.aload_n 0, 1) := by decide +kernel
theorem dX3_isRun_1 : decode cX3_isRun 1 = .ok (.iload_n 1, 1) := by decide +kernel
theorem dX3_isRun_2 : decode cX3_isRun 2 = .ok (.iload_n 2, 1) := by decide +kernel
theorem dX3_isRun_3 : decode cX3_isRun 3 = .ok (.iload_n 3, 1) := by decide +kernel
theorem dX3_isRun_4 : decode cX3_isRun 4 = .ok (.invokevirtual 48, 3) := by decide +kernel
theorem dX3_isRun_7 : decode cX3_isRun 7 = .ok (.ifCond .eq 35, 3) := by decide +kernel
theorem dX3_isRun_10 : decode cX3_isRun 10 = .ok (.aload_n 0, 1) := by decide +kernel
theorem dX3_isRun_11 : decode cX3_isRun 11 = .ok (.iload_n 1, 1) := by decide +kernel
theorem dX3_isRun_12 : decode cX3_isRun 12 = .ok (.iload_n 2, 1) := by decide +kernel
theorem dX3_isRun_13 : decode cX3_isRun 13 = .ok (.iload_n 3, 1) := by decide +kernel
theorem dX3_isRun_14 : decode cX3_isRun 14 = .ok (.invokevirtual 52, 3) := by decide +kernel
theorem dX3_isRun_17 : decode cX3_isRun 17 = .ok (.iload 4, 2) := by decide +kernel
theorem dX3_isRun_19 : decode cX3_isRun 19 = .ok (.if_icmp .ne 23, 3) := by decide +kernel
theorem dX3_isRun_22 : decode cX3_isRun 22 = .ok (.aload_n 0, 1) := by decide +kernel
theorem dX3_isRun_23 : decode cX3_isRun 23 = .ok (.getfield 13, 3) := by decide +kernel
theorem dX3_isRun_26 : decode cX3_isRun 26 = .ok (.iload_n 1, 1) := by decide +kernel
theorem dX3_isRun_27 : decode cX3_isRun 27 = .ok (.iload_n 2, 1) := by decide +kernel
theorem dX3_isRun_28 : decode cX3_isRun 28 = .ok (.iload_n 3, 1) := by decide +kernel
theorem dX3_isRun_29 : decode cX3_isRun 29 = .ok (.invokestatic 40, 3) := by decide +kernel
theorem dX3_isRun_32 : decode cX3_isRun 32 = .ok (.iaload, 1) := by decide +kernel
theorem dX3_isRun_33 : decode cX3_isRun 33 = .ok (.iload 5, 2) := by decide +kernel
theorem dX3_isRun_35 : decode cX3_isRun 35 = .ok (.if_icmp .ne 7, 3) := by decide +kernel
theorem dX3_isRun_38 : decode cX3_isRun 38 = .ok (.iconst 1, 1) := by decide +kernel
theorem dX3_isRun_39 : decode cX3_isRun 39 = .ok (.goto 4, 3) := by decide +kernel
theorem dX3_isRun_42 : decode cX3_isRun 42 = .ok (.iconst 0, 1) := by decide +kernel
theorem dX3_isRun_43 : decode cX3_isRun 43 = .ok (.ireturn, 1) := by decide +kernel
theorem dX3_isRow_0 : decode cX3_isRow 0 = .ok (.aload_n 0, 1) := by decide +kernel
theorem dX3_isRow_1 : decode cX3_isRow 1 = .ok (.iload_n 1, 1) := by decide +kernel
theorem dX3_isRow_2 : decode cX3_isRow 2 = .ok (.iload_n 2, 1) := by decide +kernel
theorem dX3_isRow_3 : decode cX3_isRow 3 = .ok (.iload_n 3, 1) := by decide +kernel
theorem dX3_isRow_4 : decode cX3_isRow 4 = .ok (.invokevirtual 48, 3) := by decide +kernel
theorem dX3_isRow_7 : decode cX3_isRow 7 = .ok (.ifCond .ne 5, 3) := by decide +kernel
theorem dX3_isRow_10 : decode cX3_isRow 10 = .ok (.iconst 0, 1) := by decide +kernel
theorem dX3_isRow_11 : decode cX3_isRow 11 = .ok (.ireturn, 1) := by decide +kernel
theorem dX3_isRow_12 : decode cX3_isRow 12 = .ok (.iload_n 1, 1) := by decide +kernel
theorem dX3_isRow_13 : decode cX3_isRow 13 = .ok (.ifCond .eq 33, 3) := by decide +kernel
theorem dX3_isRow_16 : decode cX3_isRow 16 = .ok (.aload_n 0, 1) := by decide +kernel
theorem dX3_isRow_17 : decode cX3_isRow 17 = .ok (.iload_n 1, 1) := by decide +kernel
theorem dX3_isRow_18 : decode cX3_isRow 18 = .ok (.iconst 1, 1) := by decide +kernel
theorem dX3_isRow_19 : decode cX3_isRow 19 = .ok (.isub, 1) := by decide +kernel
theorem dX3_isRow_20 : decode cX3_isRow 20 = .ok (.iload_n 2, 1) := by decide +kernel
theorem dX3_isRow_21 : decode cX3_isRow 21 = .ok (.iload_n 3, 1) := by decide +kernel
theorem dX3_isRow_22 : decode cX3_isRow 22 = .ok (.aload_n 0, 1) := by decide +kernel
theorem dX3_isRow_23 : decode cX3_isRow 23 = .ok (.iload_n 1, 1) := by decide +kernel
theorem dX3_isRow_24 : decode cX3_isRow 24 = .ok (.iload_n 2, 1) := by decide +kernel
theorem dX3_isRow_25 : decode cX3_isRow 25 = .ok (.iload_n 3, 1) := by decide +kernel
theorem dX3_isRow_26 : decode cX3_isRow 26 = .ok (.invokevirtual 52, 3) := by decide +kernel
theorem dX3_isRow_29 : decode cX3_isRow 29 = .ok (.aload_n 0, 1) := by decide +kernel
theorem dX3_isRow_30 : decode cX3_isRow 30 = .ok (.getfield 13, 3) := by decide +kernel
theorem dX3_isRow_33 : decode cX3_isRow 33 = .ok (.iload_n 1, 1) := by decide +kernel
theorem dX3_isRow_34 : decode cX3_isRow 34 = .ok (.iload_n 2, 1) := by decide +kernel
theorem dX3_isRow_35 : decode cX3_isRow 35 = .ok (.iload_n 3, 1) := by decide +kernel
theorem dX3_isRow_36 : decode cX3_isRow 36 = .ok (.invokestatic 40, 3) := by decide +kernel
theorem dX3_isRow_39 : decode cX3_isRow 39 = .ok (.iaload, 1) := by decide +kernel
theorem dX3_isRow_40 : decode cX3_isRow 40 = .ok (.invokevirtual 55, 3) := by decide +kernel
theorem dX3_isRow_43 : decode cX3_isRow 43 = .ok (.ifCond .ne 7, 3) := by decide +kernel
theorem dX3_isRow_46 : decode cX3_isRow 46 = .ok (.iconst 1, 1) := by decide +kernel
theorem dX3_isRow_47 : decode cX3_isRow 47 = .ok (.goto 4, 3) := by decide +kernel
theorem dX3_isRow_50 : decode cX3_isRow 50 = .ok (.iconst 0, 1) := by decide +kernel
theorem dX3_isRow_51 : decode cX3_isRow 51 = .ok (.ireturn, 1) := by decide +kernel
theorem dX3_countRows_0 : decode cX3_countRows 0 = .ok (.iconst 0, 1) := by decide +kernel
theorem dX3_countRows_1 : decode cX3_countRows 1 = .ok (.istore_n 1, 1) := by decide +kernel
theorem dX3_countRows_2 : decode cX3_countRows 2 = .ok (.iconst 0, 1) := by decide +kernel
theorem dX3_countRows_3 : decode cX3_countRows 3 = .ok (.istore_n 2, 1) := by decide +kernel
theorem dX3_countRows_4 : decode cX3_countRows 4 = .ok (.iload_n 2, 1) := by decide +kernel
theorem dX3_countRows_5 : decode cX3_countRows 5 = .ok (.iconst 4, 1) := by decide +kernel
theorem dX3_countRows_6 : decode cX3_countRows 6 = .ok (.if_icmp .ge 60, 3) := by decide +kernel
theorem dX3_countRows_9 : decode cX3_countRows 9 = .ok (.iconst 0, 1) := by decide +kernel
theorem dX3_countRows_10 : decode cX3_countRows 10 = .ok (.istore_n 3, 1) := by decide +kernel
theorem dX3_countRows_11 : decode cX3_countRows 11 = .ok (.iload_n 3, 1) := by decide +kernel
theorem dX3_countRows_12 : decode cX3_countRows 12 = .ok (.aload_n 0, 1) := by decide +kernel
theorem dX3_countRows_13 : decode cX3_countRows 13 = .ok (.getfield 33, 3) := by decide +kernel
theorem dX3_countRows_16 : decode cX3_countRows 16 = .ok (.if_icmp .gt 44, 3) := by decide +kernel
theorem dX3_countRows_19 : decode cX3_countRows 19 = .ok (.iconst 0, 1) := by decide +kernel
theorem dX3_countRows_20 : decode cX3_countRows 20 = .ok (.istore 4, 2) := by decide +kernel
theorem dX3_countRows_22 : decode cX3_countRows 22 = .ok (.iload 4, 2) := by decide +kernel
theorem dX3_countRows_24 : decode cX3_countRows 24 = .ok (.bipush 32, 2) := by decide +kernel
theorem dX3_countRows_26 : decode cX3_countRows 26 = .ok (.if_icmp .ge 28, 3) := by decide +kernel
theorem dX3_countRows_29 : decode cX3_countRows 29 = .ok (.iload_n 1, 1) := by decide +kernel
theorem dX3_countRows_30 : decode cX3_countRows 30 = .ok (.aload_n 0, 1) := by decide +kernel
theorem dX3_countRows_31 : decode cX3_countRows 31 = .ok (.iload_n 3, 1) := by decide +kernel
theorem dX3_countRows_32 : decode cX3_countRows 32 = .ok (.iload_n 2, 1) := by decide +kernel
theorem dX3_countRows_33 : decode cX3_countRows 33 = .ok (.iload 4, 2) := by decide +kernel
theorem dX3_countRows_35 : decode cX3_countRows 35 = .ok (.invokevirtual 59, 3) := by decide +kernel
theorem dX3_countRows_38 : decode cX3_countRows 38 = .ok (.ifCond .eq 7, 3) := by decide +kernel
theorem dX3_countRows_41 : decode cX3_countRows 41 = .ok (.iconst 1, 1) := by decide +kernel
theorem dX3_countRows_42 : decode cX3_countRows 42 = .ok (.goto 4, 3) := by decide +kernel
theorem dX3_countRows_45 : decode cX3_countRows 45 = .ok (.iconst 0, 1) := by decide +kernel
theorem dX3_countRows_46 : decode cX3_countRows 46 = .ok (.iadd, 1) := by decide +kernel
theorem dX3_countRows_47 : decode cX3_countRows 47 = .ok (.istore_n 1, 1) := by decide +kernel
theorem dX3_countRows_48 : decode cX3_countRows 48 = .ok (.iinc 4 1, 3) := by decide +kernel
theorem dX3_countRows_51 : decode cX3_countRows 51 = .ok (.goto (-29), 3) := by decide +kernel
theorem dX3_countRows_54 : decode cX3_countRows 54 = .ok (.iinc 3 1, 3) := by decide +kernel
theorem dX3_countRows_57 : decode cX3_countRows 57 = .ok (.goto (-46), 3) := by decide +kernel
theorem dX3_countRows_60 : decode cX3_countRows 60 = .ok (.iinc 2 1, 3) := by decide +kernel
theorem dX3_countRows_63 : decode cX3_countRows 63 = .ok (.goto (-59), 3) := by decide +kernel
theorem dX3_countRows_66 : decode cX3_countRows 66 = .ok (.iload_n 1, 1) := by decide +kernel
theorem dX3_countRows_67 : decode cX3_countRows 67 = .ok (.ireturn, 1) := by decide +kernel
theorem dX3_keep_0 : decode cX3_keep 0 = .ok (.iconst 0, 1) := by decide +kernel
theorem dX3_keep_1 : decode cX3_keep 1 = .ok (.istore_n 1, 1) := by decide +kernel
theorem dX3_keep_2 : decode cX3_keep 2 = .ok (.iload_n 1, 1) := by decide +kernel
theorem dX3_keep_3 : decode cX3_keep 3 = .ok (.sipush 128, 3) := by decide +kernel
theorem dX3_keep_6 : decode cX3_keep 6 = .ok (.if_icmp .ge 51, 3) := by decide +kernel
theorem dX3_keep_9 : decode cX3_keep 9 = .ok (.aload_n 0, 1) := by decide +kernel
theorem dX3_keep_10 : decode cX3_keep 10 = .ok (.getfield 17, 3) := by decide +kernel
theorem dX3_keep_13 : decode cX3_keep 13 = .ok (.iload_n 1, 1) := by decide +kernel
theorem dX3_keep_14 : decode cX3_keep 14 = .ok (.aload_n 0, 1) := by decide +kernel
theorem dX3_keep_15 : decode cX3_keep 15 = .ok (.getfield 7, 3) := by decide +kernel
theorem dX3_keep_18 : decode cX3_keep 18 = .ok (.sipush 128, 3) := by decide +kernel
theorem dX3_keep_21 : decode cX3_keep 21 = .ok (.aload_n 0, 1) := by decide +kernel
theorem dX3_keep_22 : decode cX3_keep 22 = .ok (.getfield 33, 3) := by decide +kernel
theorem dX3_keep_25 : decode cX3_keep 25 = .ok (.imul, 1) := by decide +kernel
theorem dX3_keep_26 : decode cX3_keep 26 = .ok (.iload_n 1, 1) := by decide +kernel
theorem dX3_keep_27 : decode cX3_keep 27 = .ok (.iadd, 1) := by decide +kernel
theorem dX3_keep_28 : decode cX3_keep 28 = .ok (.baload, 1) := by decide +kernel
theorem dX3_keep_29 : decode cX3_keep 29 = .ok (.bastore, 1) := by decide +kernel
theorem dX3_keep_30 : decode cX3_keep 30 = .ok (.aload_n 0, 1) := by decide +kernel
theorem dX3_keep_31 : decode cX3_keep 31 = .ok (.getfield 20, 3) := by decide +kernel
theorem dX3_keep_34 : decode cX3_keep 34 = .ok (.iload_n 1, 1) := by decide +kernel
theorem dX3_keep_35 : decode cX3_keep 35 = .ok (.aload_n 0, 1) := by decide +kernel
theorem dX3_keep_36 : decode cX3_keep 36 = .ok (.getfield 13, 3) := by decide +kernel
theorem dX3_keep_39 : decode cX3_keep 39 = .ok (.sipush 128, 3) := by decide +kernel
theorem dX3_keep_42 : decode cX3_keep 42 = .ok (.aload_n 0, 1) := by decide +kernel
theorem dX3_keep_43 : decode cX3_keep 43 = .ok (.getfield 33, 3) := by decide +kernel
theorem dX3_keep_46 : decode cX3_keep 46 = .ok (.imul, 1) := by decide +kernel
theorem dX3_keep_47 : decode cX3_keep 47 = .ok (.iload_n 1, 1) := by decide +kernel
theorem dX3_keep_48 : decode cX3_keep 48 = .ok (.iadd, 1) := by decide +kernel
theorem dX3_keep_49 : decode cX3_keep 49 = .ok (.iaload, 1) := by decide +kernel
theorem dX3_keep_50 : decode cX3_keep 50 = .ok (.iastore, 1) := by decide +kernel
theorem dX3_keep_51 : decode cX3_keep 51 = .ok (.iinc 1 1, 3) := by decide +kernel
theorem dX3_keep_54 : decode cX3_keep 54 = .ok (.goto (-52), 3) := by decide +kernel
theorem dX3_keep_57 : decode cX3_keep 57 = .ok (.return_, 1) := by decide +kernel
theorem dX3_goBack_0 : decode cX3_goBack 0 = .ok (.iconst 0, 1) := by decide +kernel
theorem dX3_goBack_1 : decode cX3_goBack 1 = .ok (.istore_n 1, 1) := by decide +kernel
theorem dX3_goBack_2 : decode cX3_goBack 2 = .ok (.iload_n 1, 1) := by decide +kernel
theorem dX3_goBack_3 : decode cX3_goBack 3 = .ok (.sipush 128, 3) := by decide +kernel
theorem dX3_goBack_6 : decode cX3_goBack 6 = .ok (.if_icmp .ge 51, 3) := by decide +kernel
theorem dX3_goBack_9 : decode cX3_goBack 9 = .ok (.aload_n 0, 1) := by decide +kernel
theorem dX3_goBack_10 : decode cX3_goBack 10 = .ok (.getfield 7, 3) := by decide +kernel
theorem dX3_goBack_13 : decode cX3_goBack 13 = .ok (.sipush 128, 3) := by decide +kernel
theorem dX3_goBack_16 : decode cX3_goBack 16 = .ok (.aload_n 0, 1) := by decide +kernel
theorem dX3_goBack_17 : decode cX3_goBack 17 = .ok (.getfield 33, 3) := by decide +kernel
theorem dX3_goBack_20 : decode cX3_goBack 20 = .ok (.imul, 1) := by decide +kernel
theorem dX3_goBack_21 : decode cX3_goBack 21 = .ok (.iload_n 1, 1) := by decide +kernel
theorem dX3_goBack_22 : decode cX3_goBack 22 = .ok (.iadd, 1) := by decide +kernel
theorem dX3_goBack_23 : decode cX3_goBack 23 = .ok (.aload_n 0, 1) := by decide +kernel
theorem dX3_goBack_24 : decode cX3_goBack 24 = .ok (.getfield 17, 3) := by decide +kernel
theorem dX3_goBack_27 : decode cX3_goBack 27 = .ok (.iload_n 1, 1) := by decide +kernel
theorem dX3_goBack_28 : decode cX3_goBack 28 = .ok (.baload, 1) := by decide +kernel
theorem dX3_goBack_29 : decode cX3_goBack 29 = .ok (.bastore, 1) := by decide +kernel
theorem dX3_goBack_30 : decode cX3_goBack 30 = .ok (.aload_n 0, 1) := by decide +kernel
theorem dX3_goBack_31 : decode cX3_goBack 31 = .ok (.getfield 13, 3) := by decide +kernel
theorem dX3_goBack_34 : decode cX3_goBack 34 = .ok (.sipush 128, 3) := by decide +kernel
theorem dX3_goBack_37 : decode cX3_goBack 37 = .ok (.aload_n 0, 1) := by decide +kernel
theorem dX3_goBack_38 : decode cX3_goBack 38 = .ok (.getfield 33, 3) := by decide +kernel
theorem dX3_goBack_41 : decode cX3_goBack 41 = .ok (.imul, 1) := by decide +kernel
theorem dX3_goBack_42 : decode cX3_goBack 42 = .ok (.iload_n 1, 1) := by decide +kernel
theorem dX3_goBack_43 : decode cX3_goBack 43 = .ok (.iadd, 1) := by decide +kernel
theorem dX3_goBack_44 : decode cX3_goBack 44 = .ok (.aload_n 0, 1) := by decide +kernel
theorem dX3_goBack_45 : decode cX3_goBack 45 = .ok (.getfield 20, 3) := by decide +kernel
theorem dX3_goBack_48 : decode cX3_goBack 48 = .ok (.iload_n 1, 1) := by decide +kernel
theorem dX3_goBack_49 : decode cX3_goBack 49 = .ok (.iaload, 1) := by decide +kernel
theorem dX3_goBack_50 : decode cX3_goBack 50 = .ok (.iastore, 1) := by decide +kernel
theorem dX3_goBack_51 : decode cX3_goBack 51 = .ok (.iinc 1 1, 3) := by decide +kernel
theorem dX3_goBack_54 : decode cX3_goBack 54 = .ok (.goto (-52), 3) := by decide +kernel
theorem dX3_goBack_57 : decode cX3_goBack 57 = .ok (.return_, 1) := by decide +kernel
theorem dX3_heldIn_0 : decode cX3_heldIn 0 = .ok (.iconst 0, 1) := by decide +kernel
theorem dX3_heldIn_1 : decode cX3_heldIn 1 = .ok (.istore 4, 2) := by decide +kernel
theorem dX3_heldIn_3 : decode cX3_heldIn 3 = .ok (.iload_n 2, 1) := by decide +kernel
theorem dX3_heldIn_4 : decode cX3_heldIn 4 = .ok (.istore 5, 2) := by decide +kernel
theorem dX3_heldIn_6 : decode cX3_heldIn 6 = .ok (.iload 5, 2) := by decide +kernel
theorem dX3_heldIn_8 : decode cX3_heldIn 8 = .ok (.iload_n 3, 1) := by decide +kernel
theorem dX3_heldIn_9 : decode cX3_heldIn 9 = .ok (.if_icmp .ge 37, 3) := by decide +kernel
theorem dX3_heldIn_12 : decode cX3_heldIn 12 = .ok (.iload 4, 2) := by decide +kernel
theorem dX3_heldIn_14 : decode cX3_heldIn 14 = .ok (.aload_n 0, 1) := by decide +kernel
theorem dX3_heldIn_15 : decode cX3_heldIn 15 = .ok (.getfield 7, 3) := by decide +kernel
theorem dX3_heldIn_18 : decode cX3_heldIn 18 = .ok (.aload_n 0, 1) := by decide +kernel
theorem dX3_heldIn_19 : decode cX3_heldIn 19 = .ok (.getfield 33, 3) := by decide +kernel
theorem dX3_heldIn_22 : decode cX3_heldIn 22 = .ok (.iload_n 1, 1) := by decide +kernel
theorem dX3_heldIn_23 : decode cX3_heldIn 23 = .ok (.iload 5, 2) := by decide +kernel
theorem dX3_heldIn_25 : decode cX3_heldIn 25 = .ok (.invokestatic 40, 3) := by decide +kernel
theorem dX3_heldIn_28 : decode cX3_heldIn 28 = .ok (.baload, 1) := by decide +kernel
theorem dX3_heldIn_29 : decode cX3_heldIn 29 = .ok (.ifCond .eq 7, 3) := by decide +kernel
theorem dX3_heldIn_32 : decode cX3_heldIn 32 = .ok (.iconst 1, 1) := by decide +kernel
theorem dX3_heldIn_33 : decode cX3_heldIn 33 = .ok (.goto 4, 3) := by decide +kernel
theorem dX3_heldIn_36 : decode cX3_heldIn 36 = .ok (.iconst 0, 1) := by decide +kernel
theorem dX3_heldIn_37 : decode cX3_heldIn 37 = .ok (.iadd, 1) := by decide +kernel
theorem dX3_heldIn_38 : decode cX3_heldIn 38 = .ok (.istore 4, 2) := by decide +kernel
theorem dX3_heldIn_40 : decode cX3_heldIn 40 = .ok (.iinc 5 1, 3) := by decide +kernel
theorem dX3_heldIn_43 : decode cX3_heldIn 43 = .ok (.goto (-37), 3) := by decide +kernel
theorem dX3_heldIn_46 : decode cX3_heldIn 46 = .ok (.iload 4, 2) := by decide +kernel
theorem dX3_heldIn_48 : decode cX3_heldIn 48 = .ok (.ireturn, 1) := by decide +kernel
theorem dX3_change_0 : decode cX3_change 0 = .ok (.aload_n 0, 1) := by decide +kernel
theorem dX3_change_1 : decode cX3_change 1 = .ok (.getfield 7, 3) := by decide +kernel
theorem dX3_change_4 : decode cX3_change 4 = .ok (.iload_n 2, 1) := by decide +kernel
theorem dX3_change_5 : decode cX3_change 5 = .ok (.baload, 1) := by decide +kernel
theorem dX3_change_6 : decode cX3_change 6 = .ok (.istore 4, 2) := by decide +kernel
theorem dX3_change_8 : decode cX3_change 8 = .ok (.aload_n 0, 1) := by decide +kernel
theorem dX3_change_9 : decode cX3_change 9 = .ok (.getfield 13, 3) := by decide +kernel
theorem dX3_change_12 : decode cX3_change 12 = .ok (.iload_n 2, 1) := by decide +kernel
theorem dX3_change_13 : decode cX3_change 13 = .ok (.iaload, 1) := by decide +kernel
theorem dX3_change_14 : decode cX3_change 14 = .ok (.istore 5, 2) := by decide +kernel
theorem dX3_change_16 : decode cX3_change 16 = .ok (.iload_n 1, 1) := by decide +kernel
theorem dX3_change_17 : decode cX3_change 17 = .ok (.ifCond .eq 18, 3) := by decide +kernel
theorem dX3_change_20 : decode cX3_change 20 = .ok (.iload_n 1, 1) := by decide +kernel
theorem dX3_change_21 : decode cX3_change 21 = .ok (.iconst 1, 1) := by decide +kernel
theorem dX3_change_22 : decode cX3_change 22 = .ok (.if_icmp .eq 13, 3) := by decide +kernel
theorem dX3_change_25 : decode cX3_change 25 = .ok (.iload 4, 2) := by decide +kernel
theorem dX3_change_27 : decode cX3_change 27 = .ok (.ifCond .eq 12, 3) := by decide +kernel
theorem dX3_change_30 : decode cX3_change 30 = .ok (.iload_n 1, 1) := by decide +kernel
theorem dX3_change_31 : decode cX3_change 31 = .ok (.iconst 4, 1) := by decide +kernel
theorem dX3_change_32 : decode cX3_change 32 = .ok (.if_icmp .eq 7, 3) := by decide +kernel
theorem dX3_change_35 : decode cX3_change 35 = .ok (.iconst 1, 1) := by decide +kernel
theorem dX3_change_36 : decode cX3_change 36 = .ok (.goto 4, 3) := by decide +kernel
theorem dX3_change_39 : decode cX3_change 39 = .ok (.iconst 0, 1) := by decide +kernel
theorem dX3_change_40 : decode cX3_change 40 = .ok (.istore 6, 2) := by decide +kernel
theorem dX3_change_42 : decode cX3_change 42 = .ok (.iload_n 1, 1) := by decide +kernel
theorem dX3_change_43 : decode cX3_change 43 = .ok (.iconst 3, 1) := by decide +kernel
theorem dX3_change_44 : decode cX3_change 44 = .ok (.if_icmp .ne 10, 3) := by decide +kernel
theorem dX3_change_47 : decode cX3_change 47 = .ok (.iload 5, 2) := by decide +kernel
theorem dX3_change_49 : decode cX3_change 49 = .ok (.iload_n 3, 1) := by decide +kernel
theorem dX3_change_50 : decode cX3_change 50 = .ok (.iadd, 1) := by decide +kernel
theorem dX3_change_51 : decode cX3_change 51 = .ok (.goto 4, 3) := by decide +kernel
theorem dX3_change_54 : decode cX3_change 54 = .ok (.iload_n 3, 1) := by decide +kernel
theorem dX3_change_55 : decode cX3_change 55 = .ok (.istore 7, 2) := by decide +kernel
theorem dX3_change_57 : decode cX3_change 57 = .ok (.iload 4, 2) := by decide +kernel
theorem dX3_change_59 : decode cX3_change 59 = .ok (.iload 6, 2) := by decide +kernel
theorem dX3_change_61 : decode cX3_change 61 = .ok (.if_icmp .ne 15, 3) := by decide +kernel
theorem dX3_change_64 : decode cX3_change 64 = .ok (.iload 4, 2) := by decide +kernel
theorem dX3_change_66 : decode cX3_change 66 = .ok (.ifCond .eq 20, 3) := by decide +kernel
theorem dX3_change_69 : decode cX3_change 69 = .ok (.iload 5, 2) := by decide +kernel
theorem dX3_change_71 : decode cX3_change 71 = .ok (.iload 7, 2) := by decide +kernel
theorem dX3_change_73 : decode cX3_change 73 = .ok (.if_icmp .eq 13, 3) := by decide +kernel
theorem dX3_change_76 : decode cX3_change 76 = .ok (.aload_n 0, 1) := by decide +kernel
theorem dX3_change_77 : decode cX3_change 77 = .ok (.dup, 1) := by decide +kernel
theorem dX3_change_78 : decode cX3_change 78 = .ok (.getfield 62, 3) := by decide +kernel
theorem dX3_change_81 : decode cX3_change 81 = .ok (.iconst 1, 1) := by decide +kernel
theorem dX3_change_82 : decode cX3_change 82 = .ok (.iadd, 1) := by decide +kernel
theorem dX3_change_83 : decode cX3_change 83 = .ok (.putfield 62, 3) := by decide +kernel
theorem dX3_change_86 : decode cX3_change 86 = .ok (.aload_n 0, 1) := by decide +kernel
theorem dX3_change_87 : decode cX3_change 87 = .ok (.getfield 7, 3) := by decide +kernel
theorem dX3_change_90 : decode cX3_change 90 = .ok (.iload_n 2, 1) := by decide +kernel
theorem dX3_change_91 : decode cX3_change 91 = .ok (.iload 6, 2) := by decide +kernel
theorem dX3_change_93 : decode cX3_change 93 = .ok (.bastore, 1) := by decide +kernel
theorem dX3_change_94 : decode cX3_change 94 = .ok (.aload_n 0, 1) := by decide +kernel
theorem dX3_change_95 : decode cX3_change 95 = .ok (.getfield 13, 3) := by decide +kernel
theorem dX3_change_98 : decode cX3_change 98 = .ok (.iload_n 2, 1) := by decide +kernel
theorem dX3_change_99 : decode cX3_change 99 = .ok (.iload 6, 2) := by decide +kernel
theorem dX3_change_101 : decode cX3_change 101 = .ok (.ifCond .eq 8, 3) := by decide +kernel
theorem dX3_change_104 : decode cX3_change 104 = .ok (.iload 7, 2) := by decide +kernel
theorem dX3_change_106 : decode cX3_change 106 = .ok (.goto 4, 3) := by decide +kernel
theorem dX3_change_109 : decode cX3_change 109 = .ok (.iconst 0, 1) := by decide +kernel
theorem dX3_change_110 : decode cX3_change 110 = .ok (.iastore, 1) := by decide +kernel
theorem dX3_change_111 : decode cX3_change 111 = .ok (.return_, 1) := by decide +kernel
theorem dX3_perform_0 : decode cX3_perform 0 = .ok (.aload_n 0, 1) := by decide +kernel
theorem dX3_perform_1 : decode cX3_perform 1 = .ok (.iconst 0, 1) := by decide +kernel
theorem dX3_perform_2 : decode cX3_perform 2 = .ok (.putfield 62, 3) := by decide +kernel
theorem dX3_perform_5 : decode cX3_perform 5 = .ok (.iload_n 1, 1) := by decide +kernel
theorem dX3_perform_6 : decode cX3_perform 6 = .ok (.ifCond .lt 25, 3) := by decide +kernel
theorem dX3_perform_9 : decode cX3_perform 9 = .ok (.iload_n 1, 1) := by decide +kernel
theorem dX3_perform_10 : decode cX3_perform 10 = .ok (.iconst 4, 1) := by decide +kernel
theorem dX3_perform_11 : decode cX3_perform 11 = .ok (.if_icmp .gt 20, 3) := by decide +kernel
theorem dX3_perform_14 : decode cX3_perform 14 = .ok (.iload_n 2, 1) := by decide +kernel
theorem dX3_perform_15 : decode cX3_perform 15 = .ok (.invokestatic 65, 3) := by decide +kernel
theorem dX3_perform_18 : decode cX3_perform 18 = .ok (.ifCond .eq 13, 3) := by decide +kernel
theorem dX3_perform_21 : decode cX3_perform 21 = .ok (.iload 4, 2) := by decide +kernel
theorem dX3_perform_23 : decode cX3_perform 23 = .ok (.iload 5, 2) := by decide +kernel
theorem dX3_perform_25 : decode cX3_perform 25 = .ok (.invokestatic 69, 3) := by decide +kernel
theorem dX3_perform_28 : decode cX3_perform 28 = .ok (.ifCond .ne 5, 3) := by decide +kernel
theorem dX3_perform_31 : decode cX3_perform 31 = .ok (.iconst 1, 1) := by decide +kernel
theorem dX3_perform_32 : decode cX3_perform 32 = .ok (.ireturn, 1) := by decide +kernel
theorem dX3_perform_33 : decode cX3_perform 33 = .ok (.aload_n 0, 1) := by decide +kernel
theorem dX3_perform_34 : decode cX3_perform 34 = .ok (.iload_n 2, 1) := by decide +kernel
theorem dX3_perform_35 : decode cX3_perform 35 = .ok (.iload 4, 2) := by decide +kernel
theorem dX3_perform_37 : decode cX3_perform 37 = .ok (.iload 5, 2) := by decide +kernel
theorem dX3_perform_39 : decode cX3_perform 39 = .ok (.invokevirtual 73, 3) := by decide +kernel
theorem dX3_perform_42 : decode cX3_perform 42 = .ok (.istore 6, 2) := by decide +kernel
theorem dX3_perform_44 : decode cX3_perform 44 = .ok (.iload_n 1, 1) := by decide +kernel
theorem dX3_perform_45 : decode cX3_perform 45 = .ok (.iconst 2, 1) := by decide +kernel
theorem dX3_perform_46 : decode cX3_perform 46 = .ok (.if_icmp .lt 10, 3) := by decide +kernel
theorem dX3_perform_49 : decode cX3_perform 49 = .ok (.iload 6, 2) := by decide +kernel
theorem dX3_perform_51 : decode cX3_perform 51 = .ok (.ifCond .ne 5, 3) := by decide +kernel
theorem dX3_perform_54 : decode cX3_perform 54 = .ok (.iconst 3, 1) := by decide +kernel
theorem dX3_perform_55 : decode cX3_perform 55 = .ok (.ireturn, 1) := by decide +kernel
theorem dX3_perform_56 : decode cX3_perform 56 = .ok (.iload_n 1, 1) := by decide +kernel
theorem dX3_perform_57 : decode cX3_perform 57 = .ok (.iconst 1, 1) := by decide +kernel
theorem dX3_perform_58 : decode cX3_perform 58 = .ok (.if_icmp .ne 10, 3) := by decide +kernel
theorem dX3_perform_61 : decode cX3_perform 61 = .ok (.iload 6, 2) := by decide +kernel
theorem dX3_perform_63 : decode cX3_perform 63 = .ok (.ifCond .le 5, 3) := by decide +kernel
theorem dX3_perform_66 : decode cX3_perform 66 = .ok (.iconst 2, 1) := by decide +kernel
theorem dX3_perform_67 : decode cX3_perform 67 = .ok (.ireturn, 1) := by decide +kernel
theorem dX3_perform_68 : decode cX3_perform 68 = .ok (.iload 4, 2) := by decide +kernel
theorem dX3_perform_70 : decode cX3_perform 70 = .ok (.istore 7, 2) := by decide +kernel
theorem dX3_perform_72 : decode cX3_perform 72 = .ok (.iload 7, 2) := by decide +kernel
theorem dX3_perform_74 : decode cX3_perform 74 = .ok (.iload 5, 2) := by decide +kernel
theorem dX3_perform_76 : decode cX3_perform 76 = .ok (.if_icmp .ge 25, 3) := by decide +kernel
theorem dX3_perform_79 : decode cX3_perform 79 = .ok (.aload_n 0, 1) := by decide +kernel
theorem dX3_perform_80 : decode cX3_perform 80 = .ok (.iload_n 1, 1) := by decide +kernel
theorem dX3_perform_81 : decode cX3_perform 81 = .ok (.aload_n 0, 1) := by decide +kernel
theorem dX3_perform_82 : decode cX3_perform 82 = .ok (.getfield 33, 3) := by decide +kernel
theorem dX3_perform_85 : decode cX3_perform 85 = .ok (.iload_n 2, 1) := by decide +kernel
theorem dX3_perform_86 : decode cX3_perform 86 = .ok (.iload 7, 2) := by decide +kernel
theorem dX3_perform_88 : decode cX3_perform 88 = .ok (.invokestatic 40, 3) := by decide +kernel
theorem dX3_perform_91 : decode cX3_perform 91 = .ok (.iload_n 3, 1) := by decide +kernel
theorem dX3_perform_92 : decode cX3_perform 92 = .ok (.invokevirtual 76, 3) := by decide +kernel
theorem dX3_perform_95 : decode cX3_perform 95 = .ok (.iinc 7 1, 3) := by decide +kernel
theorem dX3_perform_98 : decode cX3_perform 98 = .ok (.goto (-26), 3) := by decide +kernel
theorem dX3_perform_101 : decode cX3_perform 101 = .ok (.aload_n 0, 1) := by decide +kernel
theorem dX3_perform_102 : decode cX3_perform 102 = .ok (.invokevirtual 80, 3) := by decide +kernel
theorem dX3_perform_105 : decode cX3_perform 105 = .ok (.sipush 150, 3) := by decide +kernel
theorem dX3_perform_108 : decode cX3_perform 108 = .ok (.if_icmp .le 7, 3) := by decide +kernel
theorem dX3_perform_111 : decode cX3_perform 111 = .ok (.iconst 2, 1) := by decide +kernel
theorem dX3_perform_112 : decode cX3_perform 112 = .ok (.goto 4, 3) := by decide +kernel
theorem dX3_perform_115 : decode cX3_perform 115 = .ok (.iconst 0, 1) := by decide +kernel
theorem dX3_perform_116 : decode cX3_perform 116 = .ok (.ireturn, 1) := by decide +kernel
theorem dX3_state_0 : decode cX3_state 0 = .ok (.aload_n 0, 1) := by decide +kernel
theorem dX3_state_1 : decode cX3_state 1 = .ok (.iconst 0, 1) := by decide +kernel
theorem dX3_state_2 : decode cX3_state 2 = .ok (.putfield 30, 3) := by decide +kernel
theorem dX3_state_5 : decode cX3_state 5 = .ok (.aload_n 0, 1) := by decide +kernel
theorem dX3_state_6 : decode cX3_state 6 = .ok (.invokevirtual 84, 3) := by decide +kernel
theorem dX3_state_9 : decode cX3_state 9 = .ok (.aload_n 0, 1) := by decide +kernel
theorem dX3_state_10 : decode cX3_state 10 = .ok (.iload_n 1, 1) := by decide +kernel
theorem dX3_state_11 : decode cX3_state 11 = .ok (.iload_n 2, 1) := by decide +kernel
theorem dX3_state_12 : decode cX3_state 12 = .ok (.iload_n 3, 1) := by decide +kernel
theorem dX3_state_13 : decode cX3_state 13 = .ok (.iload 4, 2) := by decide +kernel
theorem dX3_state_15 : decode cX3_state 15 = .ok (.iload 5, 2) := by decide +kernel
theorem dX3_state_17 : decode cX3_state 17 = .ok (.invokevirtual 87, 3) := by decide +kernel
theorem dX3_state_20 : decode cX3_state 20 = .ok (.istore 6, 2) := by decide +kernel
theorem dX3_state_22 : decode cX3_state 22 = .ok (.iload 6, 2) := by decide +kernel
theorem dX3_state_24 : decode cX3_state 24 = .ok (.ifCond .le 14, 3) := by decide +kernel
theorem dX3_state_27 : decode cX3_state 27 = .ok (.aload_n 0, 1) := by decide +kernel
theorem dX3_state_28 : decode cX3_state 28 = .ok (.invokevirtual 91, 3) := by decide +kernel
theorem dX3_state_31 : decode cX3_state 31 = .ok (.aload_n 0, 1) := by decide +kernel
theorem dX3_state_32 : decode cX3_state 32 = .ok (.iload 6, 2) := by decide +kernel
theorem dX3_state_34 : decode cX3_state 34 = .ok (.invokevirtual 36, 3) := by decide +kernel
theorem dX3_state_37 : decode cX3_state 37 = .ok (.ireturn, 1) := by decide +kernel
theorem dX3_state_38 : decode cX3_state 38 = .ok (.aload_n 0, 1) := by decide +kernel
theorem dX3_state_39 : decode cX3_state 39 = .ok (.getfield 62, 3) := by decide +kernel
theorem dX3_state_42 : decode cX3_state 42 = .ok (.ireturn, 1) := by decide +kernel
theorem dX3_queue_0 : decode cX3_queue 0 = .ok (.aload_n 0, 1) := by decide +kernel
theorem dX3_queue_1 : decode cX3_queue 1 = .ok (.iconst 0, 1) := by decide +kernel
theorem dX3_queue_2 : decode cX3_queue 2 = .ok (.putfield 30, 3) := by decide +kernel
theorem dX3_queue_5 : decode cX3_queue 5 = .ok (.aload_n 0, 1) := by decide +kernel
theorem dX3_queue_6 : decode cX3_queue 6 = .ok (.getfield 94, 3) := by decide +kernel
theorem dX3_queue_9 : decode cX3_queue 9 = .ok (.bipush 8, 2) := by decide +kernel
theorem dX3_queue_11 : decode cX3_queue 11 = .ok (.if_icmp .ne 5, 3) := by decide +kernel
theorem dX3_queue_14 : decode cX3_queue 14 = .ok (.iconst 0, 1) := by decide +kernel
theorem dX3_queue_15 : decode cX3_queue 15 = .ok (.ireturn, 1) := by decide +kernel
theorem dX3_queue_16 : decode cX3_queue 16 = .ok (.aload_n 0, 1) := by decide +kernel
theorem dX3_queue_17 : decode cX3_queue 17 = .ok (.getfield 23, 3) := by decide +kernel
theorem dX3_queue_20 : decode cX3_queue 20 = .ok (.iconst 5, 1) := by decide +kernel
theorem dX3_queue_21 : decode cX3_queue 21 = .ok (.aload_n 0, 1) := by decide +kernel
theorem dX3_queue_22 : decode cX3_queue 22 = .ok (.getfield 94, 3) := by decide +kernel
theorem dX3_queue_25 : decode cX3_queue 25 = .ok (.imul, 1) := by decide +kernel
theorem dX3_queue_26 : decode cX3_queue 26 = .ok (.iload_n 1, 1) := by decide +kernel
theorem dX3_queue_27 : decode cX3_queue 27 = .ok (.iastore, 1) := by decide +kernel
theorem dX3_queue_28 : decode cX3_queue 28 = .ok (.aload_n 0, 1) := by decide +kernel
theorem dX3_queue_29 : decode cX3_queue 29 = .ok (.getfield 23, 3) := by decide +kernel
theorem dX3_queue_32 : decode cX3_queue 32 = .ok (.iconst 5, 1) := by decide +kernel
theorem dX3_queue_33 : decode cX3_queue 33 = .ok (.aload_n 0, 1) := by decide +kernel
theorem dX3_queue_34 : decode cX3_queue 34 = .ok (.getfield 94, 3) := by decide +kernel
theorem dX3_queue_37 : decode cX3_queue 37 = .ok (.imul, 1) := by decide +kernel
theorem dX3_queue_38 : decode cX3_queue 38 = .ok (.iconst 1, 1) := by decide +kernel
theorem dX3_queue_39 : decode cX3_queue 39 = .ok (.iadd, 1) := by decide +kernel
theorem dX3_queue_40 : decode cX3_queue 40 = .ok (.iload_n 2, 1) := by decide +kernel
theorem dX3_queue_41 : decode cX3_queue 41 = .ok (.iastore, 1) := by decide +kernel
theorem dX3_queue_42 : decode cX3_queue 42 = .ok (.aload_n 0, 1) := by decide +kernel
theorem dX3_queue_43 : decode cX3_queue 43 = .ok (.getfield 23, 3) := by decide +kernel
theorem dX3_queue_46 : decode cX3_queue 46 = .ok (.iconst 5, 1) := by decide +kernel
theorem dX3_queue_47 : decode cX3_queue 47 = .ok (.aload_n 0, 1) := by decide +kernel
theorem dX3_queue_48 : decode cX3_queue 48 = .ok (.getfield 94, 3) := by decide +kernel
theorem dX3_queue_51 : decode cX3_queue 51 = .ok (.imul, 1) := by decide +kernel
theorem dX3_queue_52 : decode cX3_queue 52 = .ok (.iconst 2, 1) := by decide +kernel
theorem dX3_queue_53 : decode cX3_queue 53 = .ok (.iadd, 1) := by decide +kernel
theorem dX3_queue_54 : decode cX3_queue 54 = .ok (.iload_n 3, 1) := by decide +kernel
theorem dX3_queue_55 : decode cX3_queue 55 = .ok (.iastore, 1) := by decide +kernel
theorem dX3_queue_56 : decode cX3_queue 56 = .ok (.aload_n 0, 1) := by decide +kernel
theorem dX3_queue_57 : decode cX3_queue 57 = .ok (.getfield 23, 3) := by decide +kernel
theorem dX3_queue_60 : decode cX3_queue 60 = .ok (.iconst 5, 1) := by decide +kernel
theorem dX3_queue_61 : decode cX3_queue 61 = .ok (.aload_n 0, 1) := by decide +kernel
theorem dX3_queue_62 : decode cX3_queue 62 = .ok (.getfield 94, 3) := by decide +kernel
theorem dX3_queue_65 : decode cX3_queue 65 = .ok (.imul, 1) := by decide +kernel
theorem dX3_queue_66 : decode cX3_queue 66 = .ok (.iconst 3, 1) := by decide +kernel
theorem dX3_queue_67 : decode cX3_queue 67 = .ok (.iadd, 1) := by decide +kernel
theorem dX3_queue_68 : decode cX3_queue 68 = .ok (.iload 4, 2) := by decide +kernel
theorem dX3_queue_70 : decode cX3_queue 70 = .ok (.iastore, 1) := by decide +kernel
theorem dX3_queue_71 : decode cX3_queue 71 = .ok (.aload_n 0, 1) := by decide +kernel
theorem dX3_queue_72 : decode cX3_queue 72 = .ok (.getfield 23, 3) := by decide +kernel
theorem dX3_queue_75 : decode cX3_queue 75 = .ok (.iconst 5, 1) := by decide +kernel
theorem dX3_queue_76 : decode cX3_queue 76 = .ok (.aload_n 0, 1) := by decide +kernel
theorem dX3_queue_77 : decode cX3_queue 77 = .ok (.getfield 94, 3) := by decide +kernel
theorem dX3_queue_80 : decode cX3_queue 80 = .ok (.imul, 1) := by decide +kernel
theorem dX3_queue_81 : decode cX3_queue 81 = .ok (.iconst 4, 1) := by decide +kernel
theorem dX3_queue_82 : decode cX3_queue 82 = .ok (.iadd, 1) := by decide +kernel
theorem dX3_queue_83 : decode cX3_queue 83 = .ok (.iload 5, 2) := by decide +kernel
theorem dX3_queue_85 : decode cX3_queue 85 = .ok (.iastore, 1) := by decide +kernel
theorem dX3_queue_86 : decode cX3_queue 86 = .ok (.aload_n 0, 1) := by decide +kernel
theorem dX3_queue_87 : decode cX3_queue 87 = .ok (.dup, 1) := by decide +kernel
theorem dX3_queue_88 : decode cX3_queue 88 = .ok (.getfield 94, 3) := by decide +kernel
theorem dX3_queue_91 : decode cX3_queue 91 = .ok (.iconst 1, 1) := by decide +kernel
theorem dX3_queue_92 : decode cX3_queue 92 = .ok (.iadd, 1) := by decide +kernel
theorem dX3_queue_93 : decode cX3_queue 93 = .ok (.putfield 94, 3) := by decide +kernel
theorem dX3_queue_96 : decode cX3_queue 96 = .ok (.iconst 1, 1) := by decide +kernel
theorem dX3_queue_97 : decode cX3_queue 97 = .ok (.ireturn, 1) := by decide +kernel
theorem dX3_commit_0 : decode cX3_commit 0 = .ok (.aload_n 0, 1) := by decide +kernel
theorem dX3_commit_1 : decode cX3_commit 1 = .ok (.iconst 0, 1) := by decide +kernel
theorem dX3_commit_2 : decode cX3_commit 2 = .ok (.putfield 30, 3) := by decide +kernel
theorem dX3_commit_5 : decode cX3_commit 5 = .ok (.aload_n 0, 1) := by decide +kernel
theorem dX3_commit_6 : decode cX3_commit 6 = .ok (.invokevirtual 84, 3) := by decide +kernel
theorem dX3_commit_9 : decode cX3_commit 9 = .ok (.aload_n 0, 1) := by decide +kernel
theorem dX3_commit_10 : decode cX3_commit 10 = .ok (.getfield 94, 3) := by decide +kernel
theorem dX3_commit_13 : decode cX3_commit 13 = .ok (.istore_n 1, 1) := by decide +kernel
theorem dX3_commit_14 : decode cX3_commit 14 = .ok (.iconst 0, 1) := by decide +kernel
theorem dX3_commit_15 : decode cX3_commit 15 = .ok (.istore_n 2, 1) := by decide +kernel
theorem dX3_commit_16 : decode cX3_commit 16 = .ok (.aload_n 0, 1) := by decide +kernel
theorem dX3_commit_17 : decode cX3_commit 17 = .ok (.iconst 0, 1) := by decide +kernel
theorem dX3_commit_18 : decode cX3_commit 18 = .ok (.putfield 94, 3) := by decide +kernel
theorem dX3_commit_21 : decode cX3_commit 21 = .ok (.aload_n 0, 1) := by decide +kernel
theorem dX3_commit_22 : decode cX3_commit 22 = .ok (.iconst (-1), 1) := by decide +kernel
theorem dX3_commit_23 : decode cX3_commit 23 = .ok (.putfield 26, 3) := by decide +kernel
theorem dX3_commit_26 : decode cX3_commit 26 = .ok (.iconst 0, 1) := by decide +kernel
theorem dX3_commit_27 : decode cX3_commit 27 = .ok (.istore_n 3, 1) := by decide +kernel
theorem dX3_commit_28 : decode cX3_commit 28 = .ok (.iload_n 3, 1) := by decide +kernel
theorem dX3_commit_29 : decode cX3_commit 29 = .ok (.iload_n 1, 1) := by decide +kernel
theorem dX3_commit_30 : decode cX3_commit 30 = .ok (.if_icmp .ge 91, 3) := by decide +kernel
theorem dX3_commit_33 : decode cX3_commit 33 = .ok (.aload_n 0, 1) := by decide +kernel
theorem dX3_commit_34 : decode cX3_commit 34 = .ok (.aload_n 0, 1) := by decide +kernel
theorem dX3_commit_35 : decode cX3_commit 35 = .ok (.getfield 23, 3) := by decide +kernel
theorem dX3_commit_38 : decode cX3_commit 38 = .ok (.iconst 5, 1) := by decide +kernel
theorem dX3_commit_39 : decode cX3_commit 39 = .ok (.iload_n 3, 1) := by decide +kernel
theorem dX3_commit_40 : decode cX3_commit 40 = .ok (.imul, 1) := by decide +kernel
theorem dX3_commit_41 : decode cX3_commit 41 = .ok (.iaload, 1) := by decide +kernel
theorem dX3_commit_42 : decode cX3_commit 42 = .ok (.aload_n 0, 1) := by decide +kernel
theorem dX3_commit_43 : decode cX3_commit 43 = .ok (.getfield 23, 3) := by decide +kernel
theorem dX3_commit_46 : decode cX3_commit 46 = .ok (.iconst 5, 1) := by decide +kernel
theorem dX3_commit_47 : decode cX3_commit 47 = .ok (.iload_n 3, 1) := by decide +kernel
theorem dX3_commit_48 : decode cX3_commit 48 = .ok (.imul, 1) := by decide +kernel
theorem dX3_commit_49 : decode cX3_commit 49 = .ok (.iconst 1, 1) := by decide +kernel
end
section
theorem dX3_commit_50 : decode cX3_commit 50 = .ok (.iadd, 1) := by decide +kernel
theorem dX3_commit_51 : decode cX3_commit 51 = .ok (.iaload, 1) := by decide +kernel
theorem dX3_commit_52 : decode cX3_commit 52 = .ok (.aload_n 0, 1) := by decide +kernel
theorem dX3_commit_53 : decode cX3_commit 53 = .ok (.getfield 23, 3) := by decide +kernel
theorem dX3_commit_56 : decode cX3_commit 56 = .ok (.iconst 5, 1) := by decide +kernel
theorem dX3_commit_57 : decode cX3_commit 57 = .ok (.iload_n 3, 1) := by decide +kernel
theorem dX3_commit_58 : decode cX3_commit 58 = .ok (.imul, 1) := by decide +kernel
theorem dX3_commit_59 : decode cX3_commit 59 = .ok (.iconst 2, 1) := by decide +kernel
theorem dX3_commit_60 : decode cX3_commit 60 = .ok (.iadd, 1) := by decide +kernel
theorem dX3_commit_61 : decode cX3_commit 61 = .ok (.iaload, 1) := by decide +kernel
theorem dX3_commit_62 : decode cX3_commit 62 = .ok (.aload_n 0, 1) := by decide +kernel
theorem dX3_commit_63 : decode cX3_commit 63 = .ok (.getfield 23, 3) := by decide +kernel
theorem dX3_commit_66 : decode cX3_commit 66 = .ok (.iconst 5, 1) := by decide +kernel
theorem dX3_commit_67 : decode cX3_commit 67 = .ok (.iload_n 3, 1) := by decide +kernel
theorem dX3_commit_68 : decode cX3_commit 68 = .ok (.imul, 1) := by decide +kernel
theorem dX3_commit_69 : decode cX3_commit 69 = .ok (.iconst 3, 1) := by decide +kernel
theorem dX3_commit_70 : decode cX3_commit 70 = .ok (.iadd, 1) := by decide +kernel
theorem dX3_commit_71 : decode cX3_commit 71 = .ok (.iaload, 1) := by decide +kernel
theorem dX3_commit_72 : decode cX3_commit 72 = .ok (.aload_n 0, 1) := by decide +kernel
theorem dX3_commit_73 : decode cX3_commit 73 = .ok (.getfield 23, 3) := by decide +kernel
theorem dX3_commit_76 : decode cX3_commit 76 = .ok (.iconst 5, 1) := by decide +kernel
theorem dX3_commit_77 : decode cX3_commit 77 = .ok (.iload_n 3, 1) := by decide +kernel
theorem dX3_commit_78 : decode cX3_commit 78 = .ok (.imul, 1) := by decide +kernel
theorem dX3_commit_79 : decode cX3_commit 79 = .ok (.iconst 4, 1) := by decide +kernel
theorem dX3_commit_80 : decode cX3_commit 80 = .ok (.iadd, 1) := by decide +kernel
theorem dX3_commit_81 : decode cX3_commit 81 = .ok (.iaload, 1) := by decide +kernel
theorem dX3_commit_82 : decode cX3_commit 82 = .ok (.invokevirtual 87, 3) := by decide +kernel
theorem dX3_commit_85 : decode cX3_commit 85 = .ok (.istore 4, 2) := by decide +kernel
theorem dX3_commit_87 : decode cX3_commit 87 = .ok (.iload 4, 2) := by decide +kernel
theorem dX3_commit_89 : decode cX3_commit 89 = .ok (.ifCond .le 19, 3) := by decide +kernel
theorem dX3_commit_92 : decode cX3_commit 92 = .ok (.aload_n 0, 1) := by decide +kernel
theorem dX3_commit_93 : decode cX3_commit 93 = .ok (.invokevirtual 91, 3) := by decide +kernel
theorem dX3_commit_96 : decode cX3_commit 96 = .ok (.aload_n 0, 1) := by decide +kernel
theorem dX3_commit_97 : decode cX3_commit 97 = .ok (.iload_n 3, 1) := by decide +kernel
theorem dX3_commit_98 : decode cX3_commit 98 = .ok (.putfield 26, 3) := by decide +kernel
theorem dX3_commit_101 : decode cX3_commit 101 = .ok (.aload_n 0, 1) := by decide +kernel
theorem dX3_commit_102 : decode cX3_commit 102 = .ok (.iload 4, 2) := by decide +kernel
theorem dX3_commit_104 : decode cX3_commit 104 = .ok (.invokevirtual 36, 3) := by decide +kernel
theorem dX3_commit_107 : decode cX3_commit 107 = .ok (.ireturn, 1) := by decide +kernel
theorem dX3_commit_108 : decode cX3_commit 108 = .ok (.iload_n 2, 1) := by decide +kernel
theorem dX3_commit_109 : decode cX3_commit 109 = .ok (.aload_n 0, 1) := by decide +kernel
theorem dX3_commit_110 : decode cX3_commit 110 = .ok (.getfield 62, 3) := by decide +kernel
theorem dX3_commit_113 : decode cX3_commit 113 = .ok (.iadd, 1) := by decide +kernel
theorem dX3_commit_114 : decode cX3_commit 114 = .ok (.istore_n 2, 1) := by decide +kernel
theorem dX3_commit_115 : decode cX3_commit 115 = .ok (.iinc 3 1, 3) := by decide +kernel
theorem dX3_commit_118 : decode cX3_commit 118 = .ok (.goto (-90), 3) := by decide +kernel
theorem dX3_commit_121 : decode cX3_commit 121 = .ok (.iload_n 2, 1) := by decide +kernel
theorem dX3_commit_122 : decode cX3_commit 122 = .ok (.ireturn, 1) := by decide +kernel
theorem dX3_failed_0 : decode cX3_failed 0 = .ok (.aload_n 0, 1) := by decide +kernel
theorem dX3_failed_1 : decode cX3_failed 1 = .ok (.iconst 0, 1) := by decide +kernel
theorem dX3_failed_2 : decode cX3_failed 2 = .ok (.putfield 30, 3) := by decide +kernel
theorem dX3_failed_5 : decode cX3_failed 5 = .ok (.aload_n 0, 1) := by decide +kernel
theorem dX3_failed_6 : decode cX3_failed 6 = .ok (.getfield 26, 3) := by decide +kernel
theorem dX3_failed_9 : decode cX3_failed 9 = .ok (.ireturn, 1) := by decide +kernel
theorem dX3_isDay_0 : decode cX3_isDay 0 = .ok (.iload_n 0, 1) := by decide +kernel
theorem dX3_isDay_1 : decode cX3_isDay 1 = .ok (.ifCond .lt 13, 3) := by decide +kernel
theorem dX3_isDay_4 : decode cX3_isDay 4 = .ok (.iload_n 0, 1) := by decide +kernel
theorem dX3_isDay_5 : decode cX3_isDay 5 = .ok (.bipush 31, 2) := by decide +kernel
theorem dX3_isDay_7 : decode cX3_isDay 7 = .ok (.if_icmp .gt 7, 3) := by decide +kernel
theorem dX3_isDay_10 : decode cX3_isDay 10 = .ok (.iconst 1, 1) := by decide +kernel
theorem dX3_isDay_11 : decode cX3_isDay 11 = .ok (.goto 4, 3) := by decide +kernel
theorem dX3_isDay_14 : decode cX3_isDay 14 = .ok (.iconst 0, 1) := by decide +kernel
theorem dX3_isDay_15 : decode cX3_isDay 15 = .ok (.ireturn, 1) := by decide +kernel
theorem dX3_value_0 : decode cX3_value 0 = .ok (.aload_n 0, 1) := by decide +kernel
theorem dX3_value_1 : decode cX3_value 1 = .ok (.iconst 0, 1) := by decide +kernel
theorem dX3_value_2 : decode cX3_value 2 = .ok (.putfield 30, 3) := by decide +kernel
theorem dX3_value_5 : decode cX3_value 5 = .ok (.iload_n 1, 1) := by decide +kernel
theorem dX3_value_6 : decode cX3_value 6 = .ok (.invokestatic 65, 3) := by decide +kernel
theorem dX3_value_9 : decode cX3_value 9 = .ok (.ifCond .eq 18, 3) := by decide +kernel
theorem dX3_value_12 : decode cX3_value 12 = .ok (.iload_n 2, 1) := by decide +kernel
theorem dX3_value_13 : decode cX3_value 13 = .ok (.invokestatic 97, 3) := by decide +kernel
theorem dX3_value_16 : decode cX3_value 16 = .ok (.ifCond .eq 11, 3) := by decide +kernel
theorem dX3_value_19 : decode cX3_value 19 = .ok (.aload_n 0, 1) := by decide +kernel
theorem dX3_value_20 : decode cX3_value 20 = .ok (.iload_n 3, 1) := by decide +kernel
theorem dX3_value_21 : decode cX3_value 21 = .ok (.invokevirtual 100, 3) := by decide +kernel
theorem dX3_value_24 : decode cX3_value 24 = .ok (.ifCond .ne 9, 3) := by decide +kernel
theorem dX3_value_27 : decode cX3_value 27 = .ok (.aload_n 0, 1) := by decide +kernel
theorem dX3_value_28 : decode cX3_value 28 = .ok (.iconst 1, 1) := by decide +kernel
theorem dX3_value_29 : decode cX3_value 29 = .ok (.invokevirtual 36, 3) := by decide +kernel
theorem dX3_value_32 : decode cX3_value 32 = .ok (.ireturn, 1) := by decide +kernel
theorem dX3_value_33 : decode cX3_value 33 = .ok (.iload_n 3, 1) := by decide +kernel
theorem dX3_value_34 : decode cX3_value 34 = .ok (.iload_n 1, 1) := by decide +kernel
theorem dX3_value_35 : decode cX3_value 35 = .ok (.iload_n 2, 1) := by decide +kernel
theorem dX3_value_36 : decode cX3_value 36 = .ok (.invokestatic 40, 3) := by decide +kernel
theorem dX3_value_39 : decode cX3_value 39 = .ok (.istore 4, 2) := by decide +kernel
theorem dX3_value_41 : decode cX3_value 41 = .ok (.aload_n 0, 1) := by decide +kernel
theorem dX3_value_42 : decode cX3_value 42 = .ok (.getfield 7, 3) := by decide +kernel
theorem dX3_value_45 : decode cX3_value 45 = .ok (.iload 4, 2) := by decide +kernel
theorem dX3_value_47 : decode cX3_value 47 = .ok (.baload, 1) := by decide +kernel
theorem dX3_value_48 : decode cX3_value 48 = .ok (.ifCond .eq 13, 3) := by decide +kernel
theorem dX3_value_51 : decode cX3_value 51 = .ok (.aload_n 0, 1) := by decide +kernel
theorem dX3_value_52 : decode cX3_value 52 = .ok (.getfield 13, 3) := by decide +kernel
theorem dX3_value_55 : decode cX3_value 55 = .ok (.iload 4, 2) := by decide +kernel
theorem dX3_value_57 : decode cX3_value 57 = .ok (.iaload, 1) := by decide +kernel
theorem dX3_value_58 : decode cX3_value 58 = .ok (.goto 8, 3) := by decide +kernel
theorem dX3_value_61 : decode cX3_value 61 = .ok (.aload_n 0, 1) := by decide +kernel
theorem dX3_value_62 : decode cX3_value 62 = .ok (.iconst 2, 1) := by decide +kernel
theorem dX3_value_63 : decode cX3_value 63 = .ok (.invokevirtual 36, 3) := by decide +kernel
theorem dX3_value_66 : decode cX3_value 66 = .ok (.ireturn, 1) := by decide +kernel
theorem dX3_has_0 : decode cX3_has 0 = .ok (.aload_n 0, 1) := by decide +kernel
theorem dX3_has_1 : decode cX3_has 1 = .ok (.iconst 0, 1) := by decide +kernel
theorem dX3_has_2 : decode cX3_has 2 = .ok (.putfield 30, 3) := by decide +kernel
theorem dX3_has_5 : decode cX3_has 5 = .ok (.iload_n 1, 1) := by decide +kernel
theorem dX3_has_6 : decode cX3_has 6 = .ok (.invokestatic 65, 3) := by decide +kernel
theorem dX3_has_9 : decode cX3_has 9 = .ok (.ifCond .eq 36, 3) := by decide +kernel
theorem dX3_has_12 : decode cX3_has 12 = .ok (.iload_n 2, 1) := by decide +kernel
theorem dX3_has_13 : decode cX3_has 13 = .ok (.invokestatic 97, 3) := by decide +kernel
theorem dX3_has_16 : decode cX3_has 16 = .ok (.ifCond .eq 29, 3) := by decide +kernel
theorem dX3_has_19 : decode cX3_has 19 = .ok (.aload_n 0, 1) := by decide +kernel
theorem dX3_has_20 : decode cX3_has 20 = .ok (.iload_n 3, 1) := by decide +kernel
theorem dX3_has_21 : decode cX3_has 21 = .ok (.invokevirtual 100, 3) := by decide +kernel
theorem dX3_has_24 : decode cX3_has 24 = .ok (.ifCond .eq 21, 3) := by decide +kernel
theorem dX3_has_27 : decode cX3_has 27 = .ok (.aload_n 0, 1) := by decide +kernel
theorem dX3_has_28 : decode cX3_has 28 = .ok (.getfield 7, 3) := by decide +kernel
theorem dX3_has_31 : decode cX3_has 31 = .ok (.iload_n 3, 1) := by decide +kernel
theorem dX3_has_32 : decode cX3_has 32 = .ok (.iload_n 1, 1) := by decide +kernel
theorem dX3_has_33 : decode cX3_has 33 = .ok (.iload_n 2, 1) := by decide +kernel
theorem dX3_has_34 : decode cX3_has 34 = .ok (.invokestatic 40, 3) := by decide +kernel
theorem dX3_has_37 : decode cX3_has 37 = .ok (.baload, 1) := by decide +kernel
theorem dX3_has_38 : decode cX3_has 38 = .ok (.ifCond .eq 7, 3) := by decide +kernel
theorem dX3_has_41 : decode cX3_has 41 = .ok (.iconst 1, 1) := by decide +kernel
theorem dX3_has_42 : decode cX3_has 42 = .ok (.goto 4, 3) := by decide +kernel
theorem dX3_has_45 : decode cX3_has 45 = .ok (.iconst 0, 1) := by decide +kernel
theorem dX3_has_46 : decode cX3_has 46 = .ok (.ireturn, 1) := by decide +kernel
theorem dX3_sum_0 : decode cX3_sum 0 = .ok (.aload_n 0, 1) := by decide +kernel
theorem dX3_sum_1 : decode cX3_sum 1 = .ok (.iconst 0, 1) := by decide +kernel
theorem dX3_sum_2 : decode cX3_sum 2 = .ok (.putfield 30, 3) := by decide +kernel
theorem dX3_sum_5 : decode cX3_sum 5 = .ok (.iload_n 1, 1) := by decide +kernel
theorem dX3_sum_6 : decode cX3_sum 6 = .ok (.invokestatic 65, 3) := by decide +kernel
theorem dX3_sum_9 : decode cX3_sum 9 = .ok (.ifCond .eq 20, 3) := by decide +kernel
theorem dX3_sum_12 : decode cX3_sum 12 = .ok (.iload_n 2, 1) := by decide +kernel
theorem dX3_sum_13 : decode cX3_sum 13 = .ok (.iload_n 3, 1) := by decide +kernel
theorem dX3_sum_14 : decode cX3_sum 14 = .ok (.invokestatic 69, 3) := by decide +kernel
theorem dX3_sum_17 : decode cX3_sum 17 = .ok (.ifCond .eq 12, 3) := by decide +kernel
theorem dX3_sum_20 : decode cX3_sum 20 = .ok (.aload_n 0, 1) := by decide +kernel
theorem dX3_sum_21 : decode cX3_sum 21 = .ok (.iload 4, 2) := by decide +kernel
theorem dX3_sum_23 : decode cX3_sum 23 = .ok (.invokevirtual 100, 3) := by decide +kernel
theorem dX3_sum_26 : decode cX3_sum 26 = .ok (.ifCond .ne 10, 3) := by decide +kernel
theorem dX3_sum_29 : decode cX3_sum 29 = .ok (.aload_n 0, 1) := by decide +kernel
theorem dX3_sum_30 : decode cX3_sum 30 = .ok (.iconst 1, 1) := by decide +kernel
theorem dX3_sum_31 : decode cX3_sum 31 = .ok (.invokevirtual 36, 3) := by decide +kernel
theorem dX3_sum_34 : decode cX3_sum 34 = .ok (.i2l, 1) := by decide +kernel
theorem dX3_sum_35 : decode cX3_sum 35 = .ok (.lreturn, 1) := by decide +kernel
theorem dX3_sum_36 : decode cX3_sum 36 = .ok (.lconst 0, 1) := by decide +kernel
theorem dX3_sum_37 : decode cX3_sum 37 = .ok (.lstore 5, 2) := by decide +kernel
theorem dX3_sum_39 : decode cX3_sum 39 = .ok (.iload_n 2, 1) := by decide +kernel
theorem dX3_sum_40 : decode cX3_sum 40 = .ok (.istore 7, 2) := by decide +kernel
theorem dX3_sum_42 : decode cX3_sum 42 = .ok (.iload 7, 2) := by decide +kernel
theorem dX3_sum_44 : decode cX3_sum 44 = .ok (.iload_n 3, 1) := by decide +kernel
theorem dX3_sum_45 : decode cX3_sum 45 = .ok (.if_icmp .ge 48, 3) := by decide +kernel
theorem dX3_sum_48 : decode cX3_sum 48 = .ok (.lload 5, 2) := by decide +kernel
theorem dX3_sum_50 : decode cX3_sum 50 = .ok (.aload_n 0, 1) := by decide +kernel
theorem dX3_sum_51 : decode cX3_sum 51 = .ok (.getfield 7, 3) := by decide +kernel
theorem dX3_sum_54 : decode cX3_sum 54 = .ok (.iload 4, 2) := by decide +kernel
theorem dX3_sum_56 : decode cX3_sum 56 = .ok (.iload_n 1, 1) := by decide +kernel
theorem dX3_sum_57 : decode cX3_sum 57 = .ok (.iload 7, 2) := by decide +kernel
theorem dX3_sum_59 : decode cX3_sum 59 = .ok (.invokestatic 40, 3) := by decide +kernel
theorem dX3_sum_62 : decode cX3_sum 62 = .ok (.baload, 1) := by decide +kernel
theorem dX3_sum_63 : decode cX3_sum 63 = .ok (.ifCond .eq 20, 3) := by decide +kernel
theorem dX3_sum_66 : decode cX3_sum 66 = .ok (.aload_n 0, 1) := by decide +kernel
theorem dX3_sum_67 : decode cX3_sum 67 = .ok (.getfield 13, 3) := by decide +kernel
theorem dX3_sum_70 : decode cX3_sum 70 = .ok (.iload 4, 2) := by decide +kernel
theorem dX3_sum_72 : decode cX3_sum 72 = .ok (.iload_n 1, 1) := by decide +kernel
theorem dX3_sum_73 : decode cX3_sum 73 = .ok (.iload 7, 2) := by decide +kernel
theorem dX3_sum_75 : decode cX3_sum 75 = .ok (.invokestatic 40, 3) := by decide +kernel
theorem dX3_sum_78 : decode cX3_sum 78 = .ok (.iaload, 1) := by decide +kernel
theorem dX3_sum_79 : decode cX3_sum 79 = .ok (.i2l, 1) := by decide +kernel
theorem dX3_sum_80 : decode cX3_sum 80 = .ok (.goto 4, 3) := by decide +kernel
theorem dX3_sum_83 : decode cX3_sum 83 = .ok (.lconst 0, 1) := by decide +kernel
theorem dX3_sum_84 : decode cX3_sum 84 = .ok (.ladd, 1) := by decide +kernel
theorem dX3_sum_85 : decode cX3_sum 85 = .ok (.lstore 5, 2) := by decide +kernel
theorem dX3_sum_87 : decode cX3_sum 87 = .ok (.iinc 7 1, 3) := by decide +kernel
theorem dX3_sum_90 : decode cX3_sum 90 = .ok (.goto (-48), 3) := by decide +kernel
theorem dX3_sum_93 : decode cX3_sum 93 = .ok (.lload 5, 2) := by decide +kernel
theorem dX3_sum_95 : decode cX3_sum 95 = .ok (.lreturn, 1) := by decide +kernel
theorem dX3_runs_0 : decode cX3_runs 0 = .ok (.aload_n 0, 1) := by decide +kernel
theorem dX3_runs_1 : decode cX3_runs 1 = .ok (.iconst 0, 1) := by decide +kernel
theorem dX3_runs_2 : decode cX3_runs 2 = .ok (.putfield 30, 3) := by decide +kernel
theorem dX3_runs_5 : decode cX3_runs 5 = .ok (.iload_n 1, 1) := by decide +kernel
theorem dX3_runs_6 : decode cX3_runs 6 = .ok (.invokestatic 65, 3) := by decide +kernel
theorem dX3_runs_9 : decode cX3_runs 9 = .ok (.ifCond .eq 11, 3) := by decide +kernel
theorem dX3_runs_12 : decode cX3_runs 12 = .ok (.aload_n 0, 1) := by decide +kernel
theorem dX3_runs_13 : decode cX3_runs 13 = .ok (.iload_n 2, 1) := by decide +kernel
theorem dX3_runs_14 : decode cX3_runs 14 = .ok (.invokevirtual 100, 3) := by decide +kernel
theorem dX3_runs_17 : decode cX3_runs 17 = .ok (.ifCond .ne 9, 3) := by decide +kernel
theorem dX3_runs_20 : decode cX3_runs 20 = .ok (.aload_n 0, 1) := by decide +kernel
theorem dX3_runs_21 : decode cX3_runs 21 = .ok (.iconst 1, 1) := by decide +kernel
theorem dX3_runs_22 : decode cX3_runs 22 = .ok (.invokevirtual 36, 3) := by decide +kernel
theorem dX3_runs_25 : decode cX3_runs 25 = .ok (.ireturn, 1) := by decide +kernel
theorem dX3_runs_26 : decode cX3_runs 26 = .ok (.iconst 0, 1) := by decide +kernel
theorem dX3_runs_27 : decode cX3_runs 27 = .ok (.istore_n 3, 1) := by decide +kernel
theorem dX3_runs_28 : decode cX3_runs 28 = .ok (.iconst 0, 1) := by decide +kernel
theorem dX3_runs_29 : decode cX3_runs 29 = .ok (.istore 4, 2) := by decide +kernel
theorem dX3_runs_31 : decode cX3_runs 31 = .ok (.iload 4, 2) := by decide +kernel
theorem dX3_runs_33 : decode cX3_runs 33 = .ok (.bipush 32, 2) := by decide +kernel
theorem dX3_runs_35 : decode cX3_runs 35 = .ok (.if_icmp .ge 28, 3) := by decide +kernel
theorem dX3_runs_38 : decode cX3_runs 38 = .ok (.iload_n 3, 1) := by decide +kernel
theorem dX3_runs_39 : decode cX3_runs 39 = .ok (.aload_n 0, 1) := by decide +kernel
theorem dX3_runs_40 : decode cX3_runs 40 = .ok (.iload_n 2, 1) := by decide +kernel
theorem dX3_runs_41 : decode cX3_runs 41 = .ok (.iload_n 1, 1) := by decide +kernel
theorem dX3_runs_42 : decode cX3_runs 42 = .ok (.iload 4, 2) := by decide +kernel
theorem dX3_runs_44 : decode cX3_runs 44 = .ok (.invokevirtual 48, 3) := by decide +kernel
theorem dX3_runs_47 : decode cX3_runs 47 = .ok (.ifCond .eq 7, 3) := by decide +kernel
theorem dX3_runs_50 : decode cX3_runs 50 = .ok (.iconst 1, 1) := by decide +kernel
theorem dX3_runs_51 : decode cX3_runs 51 = .ok (.goto 4, 3) := by decide +kernel
theorem dX3_runs_54 : decode cX3_runs 54 = .ok (.iconst 0, 1) := by decide +kernel
theorem dX3_runs_55 : decode cX3_runs 55 = .ok (.iadd, 1) := by decide +kernel
theorem dX3_runs_56 : decode cX3_runs 56 = .ok (.istore_n 3, 1) := by decide +kernel
theorem dX3_runs_57 : decode cX3_runs 57 = .ok (.iinc 4 1, 3) := by decide +kernel
theorem dX3_runs_60 : decode cX3_runs 60 = .ok (.goto (-29), 3) := by decide +kernel
theorem dX3_runs_63 : decode cX3_runs 63 = .ok (.iload_n 3, 1) := by decide +kernel
theorem dX3_runs_64 : decode cX3_runs 64 = .ok (.ireturn, 1) := by decide +kernel
theorem dX3_run_0 : decode cX3_run 0 = .ok (.aload_n 0, 1) := by decide +kernel
theorem dX3_run_1 : decode cX3_run 1 = .ok (.iconst 0, 1) := by decide +kernel
theorem dX3_run_2 : decode cX3_run 2 = .ok (.putfield 30, 3) := by decide +kernel
theorem dX3_run_5 : decode cX3_run 5 = .ok (.iload_n 1, 1) := by decide +kernel
theorem dX3_run_6 : decode cX3_run 6 = .ok (.invokestatic 65, 3) := by decide +kernel
theorem dX3_run_9 : decode cX3_run 9 = .ok (.ifCond .eq 22, 3) := by decide +kernel
theorem dX3_run_12 : decode cX3_run 12 = .ok (.aload_n 0, 1) := by decide +kernel
theorem dX3_run_13 : decode cX3_run 13 = .ok (.iload_n 2, 1) := by decide +kernel
theorem dX3_run_14 : decode cX3_run 14 = .ok (.invokevirtual 100, 3) := by decide +kernel
theorem dX3_run_17 : decode cX3_run 17 = .ok (.ifCond .eq 14, 3) := by decide +kernel
theorem dX3_run_20 : decode cX3_run 20 = .ok (.iload 4, 2) := by decide +kernel
theorem dX3_run_22 : decode cX3_run 22 = .ok (.ifCond .lt 9, 3) := by decide +kernel
theorem dX3_run_25 : decode cX3_run 25 = .ok (.iload 4, 2) := by decide +kernel
theorem dX3_run_27 : decode cX3_run 27 = .ok (.iconst 2, 1) := by decide +kernel
theorem dX3_run_28 : decode cX3_run 28 = .ok (.if_icmp .le 9, 3) := by decide +kernel
theorem dX3_run_31 : decode cX3_run 31 = .ok (.aload_n 0, 1) := by decide +kernel
theorem dX3_run_32 : decode cX3_run 32 = .ok (.iconst 1, 1) := by decide +kernel
theorem dX3_run_33 : decode cX3_run 33 = .ok (.invokevirtual 36, 3) := by decide +kernel
theorem dX3_run_36 : decode cX3_run 36 = .ok (.ireturn, 1) := by decide +kernel
theorem dX3_run_37 : decode cX3_run 37 = .ok (.iconst 0, 1) := by decide +kernel
theorem dX3_run_38 : decode cX3_run 38 = .ok (.istore 5, 2) := by decide +kernel
theorem dX3_run_40 : decode cX3_run 40 = .ok (.iconst 0, 1) := by decide +kernel
theorem dX3_run_41 : decode cX3_run 41 = .ok (.istore 6, 2) := by decide +kernel
theorem dX3_run_43 : decode cX3_run 43 = .ok (.iload 6, 2) := by decide +kernel
theorem dX3_run_45 : decode cX3_run 45 = .ok (.bipush 32, 2) := by decide +kernel
theorem dX3_run_47 : decode cX3_run 47 = .ok (.if_icmp .ge 69, 3) := by decide +kernel
theorem dX3_run_50 : decode cX3_run 50 = .ok (.aload_n 0, 1) := by decide +kernel
theorem dX3_run_51 : decode cX3_run 51 = .ok (.iload_n 2, 1) := by decide +kernel
theorem dX3_run_52 : decode cX3_run 52 = .ok (.iload_n 1, 1) := by decide +kernel
theorem dX3_run_53 : decode cX3_run 53 = .ok (.iload 6, 2) := by decide +kernel
theorem dX3_run_55 : decode cX3_run 55 = .ok (.invokevirtual 48, 3) := by decide +kernel
theorem dX3_run_58 : decode cX3_run 58 = .ok (.ifCond .eq 52, 3) := by decide +kernel
theorem dX3_run_61 : decode cX3_run 61 = .ok (.iload 5, 2) := by decide +kernel
theorem dX3_run_63 : decode cX3_run 63 = .ok (.iload_n 3, 1) := by decide +kernel
theorem dX3_run_64 : decode cX3_run 64 = .ok (.if_icmp .ne 43, 3) := by decide +kernel
theorem dX3_run_67 : decode cX3_run 67 = .ok (.iload 4, 2) := by decide +kernel
theorem dX3_run_69 : decode cX3_run 69 = .ok (.ifCond .ne 8, 3) := by decide +kernel
theorem dX3_run_72 : decode cX3_run 72 = .ok (.iload 6, 2) := by decide +kernel
theorem dX3_run_74 : decode cX3_run 74 = .ok (.goto 32, 3) := by decide +kernel
theorem dX3_run_77 : decode cX3_run 77 = .ok (.iload 4, 2) := by decide +kernel
theorem dX3_run_79 : decode cX3_run 79 = .ok (.iconst 1, 1) := by decide +kernel
theorem dX3_run_80 : decode cX3_run 80 = .ok (.if_icmp .ne 14, 3) := by decide +kernel
theorem dX3_run_83 : decode cX3_run 83 = .ok (.aload_n 0, 1) := by decide +kernel
theorem dX3_run_84 : decode cX3_run 84 = .ok (.iload_n 2, 1) := by decide +kernel
theorem dX3_run_85 : decode cX3_run 85 = .ok (.iload_n 1, 1) := by decide +kernel
theorem dX3_run_86 : decode cX3_run 86 = .ok (.iload 6, 2) := by decide +kernel
theorem dX3_run_88 : decode cX3_run 88 = .ok (.invokevirtual 52, 3) := by decide +kernel
theorem dX3_run_91 : decode cX3_run 91 = .ok (.goto 15, 3) := by decide +kernel
theorem dX3_run_94 : decode cX3_run 94 = .ok (.aload_n 0, 1) := by decide +kernel
theorem dX3_run_95 : decode cX3_run 95 = .ok (.getfield 13, 3) := by decide +kernel
theorem dX3_run_98 : decode cX3_run 98 = .ok (.iload_n 2, 1) := by decide +kernel
theorem dX3_run_99 : decode cX3_run 99 = .ok (.iload_n 1, 1) := by decide +kernel
theorem dX3_run_100 : decode cX3_run 100 = .ok (.iload 6, 2) := by decide +kernel
theorem dX3_run_102 : decode cX3_run 102 = .ok (.invokestatic 40, 3) := by decide +kernel
theorem dX3_run_105 : decode cX3_run 105 = .ok (.iaload, 1) := by decide +kernel
theorem dX3_run_106 : decode cX3_run 106 = .ok (.ireturn, 1) := by decide +kernel
theorem dX3_run_107 : decode cX3_run 107 = .ok (.iinc 5 1, 3) := by decide +kernel
theorem dX3_run_110 : decode cX3_run 110 = .ok (.iinc 6 1, 3) := by decide +kernel
theorem dX3_run_113 : decode cX3_run 113 = .ok (.goto (-70), 3) := by decide +kernel
theorem dX3_run_116 : decode cX3_run 116 = .ok (.aload_n 0, 1) := by decide +kernel
theorem dX3_run_117 : decode cX3_run 117 = .ok (.iconst 2, 1) := by decide +kernel
theorem dX3_run_118 : decode cX3_run 118 = .ok (.invokevirtual 36, 3) := by decide +kernel
theorem dX3_run_121 : decode cX3_run 121 = .ok (.ireturn, 1) := by decide +kernel
theorem dX3_rows_0 : decode cX3_rows 0 = .ok (.aload_n 0, 1) := by decide +kernel
theorem dX3_rows_1 : decode cX3_rows 1 = .ok (.iconst 0, 1) := by decide +kernel
theorem dX3_rows_2 : decode cX3_rows 2 = .ok (.putfield 30, 3) := by decide +kernel
theorem dX3_rows_5 : decode cX3_rows 5 = .ok (.aload_n 0, 1) := by decide +kernel
theorem dX3_rows_6 : decode cX3_rows 6 = .ok (.invokevirtual 80, 3) := by decide +kernel
theorem dX3_rows_9 : decode cX3_rows 9 = .ok (.ireturn, 1) := by decide +kernel
theorem dX3_endTime_0 : decode cX3_endTime 0 = .ok (.aload_n 0, 1) := by decide +kernel
theorem dX3_endTime_1 : decode cX3_endTime 1 = .ok (.iload_n 1, 1) := by decide +kernel
theorem dX3_endTime_2 : decode cX3_endTime 2 = .ok (.iload_n 2, 1) := by decide +kernel
theorem dX3_endTime_3 : decode cX3_endTime 3 = .ok (.iload_n 3, 1) := by decide +kernel
theorem dX3_endTime_4 : decode cX3_endTime 4 = .ok (.invokevirtual 52, 3) := by decide +kernel
theorem dX3_endTime_7 : decode cX3_endTime 7 = .ok (.istore 4, 2) := by decide +kernel
theorem dX3_endTime_9 : decode cX3_endTime 9 = .ok (.aload_n 0, 1) := by decide +kernel
theorem dX3_endTime_10 : decode cX3_endTime 10 = .ok (.getfield 13, 3) := by decide +kernel
theorem dX3_endTime_13 : decode cX3_endTime 13 = .ok (.iload_n 1, 1) := by decide +kernel
theorem dX3_endTime_14 : decode cX3_endTime 14 = .ok (.iload_n 2, 1) := by decide +kernel
theorem dX3_endTime_15 : decode cX3_endTime 15 = .ok (.iload_n 3, 1) := by decide +kernel
theorem dX3_endTime_16 : decode cX3_endTime 16 = .ok (.invokestatic 40, 3) := by decide +kernel
theorem dX3_endTime_19 : decode cX3_endTime 19 = .ok (.iaload, 1) := by decide +kernel
theorem dX3_endTime_20 : decode cX3_endTime 20 = .ok (.istore 5, 2) := by decide +kernel
theorem dX3_endTime_22 : decode cX3_endTime 22 = .ok (.iload_n 1, 1) := by decide +kernel
theorem dX3_endTime_23 : decode cX3_endTime 23 = .ok (.iconst 1, 1) := by decide +kernel
theorem dX3_endTime_24 : decode cX3_endTime 24 = .ok (.iadd, 1) := by decide +kernel
theorem dX3_endTime_25 : decode cX3_endTime 25 = .ok (.istore 6, 2) := by decide +kernel
theorem dX3_endTime_27 : decode cX3_endTime 27 = .ok (.iload 6, 2) := by decide +kernel
theorem dX3_endTime_29 : decode cX3_endTime 29 = .ok (.aload_n 0, 1) := by decide +kernel
theorem dX3_endTime_30 : decode cX3_endTime 30 = .ok (.getfield 33, 3) := by decide +kernel
theorem dX3_endTime_33 : decode cX3_endTime 33 = .ok (.if_icmp .gt 24, 3) := by decide +kernel
theorem dX3_endTime_36 : decode cX3_endTime 36 = .ok (.aload_n 0, 1) := by decide +kernel
theorem dX3_endTime_37 : decode cX3_endTime 37 = .ok (.iload 6, 2) := by decide +kernel
theorem dX3_endTime_39 : decode cX3_endTime 39 = .ok (.iload_n 2, 1) := by decide +kernel
theorem dX3_endTime_40 : decode cX3_endTime 40 = .ok (.iload_n 3, 1) := by decide +kernel
theorem dX3_endTime_41 : decode cX3_endTime 41 = .ok (.iload 4, 2) := by decide +kernel
theorem dX3_endTime_43 : decode cX3_endTime 43 = .ok (.iload 5, 2) := by decide +kernel
theorem dX3_endTime_45 : decode cX3_endTime 45 = .ok (.invokevirtual 55, 3) := by decide +kernel
theorem dX3_endTime_48 : decode cX3_endTime 48 = .ok (.ifCond .eq 9, 3) := by decide +kernel
theorem dX3_endTime_51 : decode cX3_endTime 51 = .ok (.iinc 6 1, 3) := by decide +kernel
theorem dX3_endTime_54 : decode cX3_endTime 54 = .ok (.goto (-27), 3) := by decide +kernel
theorem dX3_endTime_57 : decode cX3_endTime 57 = .ok (.iload 6, 2) := by decide +kernel
theorem dX3_endTime_59 : decode cX3_endTime 59 = .ok (.aload_n 0, 1) := by decide +kernel
theorem dX3_endTime_60 : decode cX3_endTime 60 = .ok (.getfield 33, 3) := by decide +kernel
theorem dX3_endTime_63 : decode cX3_endTime 63 = .ok (.if_icmp .le 7, 3) := by decide +kernel
theorem dX3_endTime_66 : decode cX3_endTime 66 = .ok (.iconst (-1), 1) := by decide +kernel
theorem dX3_endTime_67 : decode cX3_endTime 67 = .ok (.goto 5, 3) := by decide +kernel
theorem dX3_endTime_70 : decode cX3_endTime 70 = .ok (.iload 6, 2) := by decide +kernel
theorem dX3_endTime_72 : decode cX3_endTime 72 = .ok (.ireturn, 1) := by decide +kernel
theorem dX3_row_0 : decode cX3_row 0 = .ok (.aload_n 0, 1) := by decide +kernel
theorem dX3_row_1 : decode cX3_row 1 = .ok (.iconst 0, 1) := by decide +kernel
theorem dX3_row_2 : decode cX3_row 2 = .ok (.putfield 30, 3) := by decide +kernel
theorem dX3_row_5 : decode cX3_row 5 = .ok (.iload_n 2, 1) := by decide +kernel
theorem dX3_row_6 : decode cX3_row 6 = .ok (.ifCond .lt 8, 3) := by decide +kernel
theorem dX3_row_9 : decode cX3_row 9 = .ok (.iload_n 2, 1) := by decide +kernel
theorem dX3_row_10 : decode cX3_row 10 = .ok (.iconst 5, 1) := by decide +kernel
theorem dX3_row_11 : decode cX3_row 11 = .ok (.if_icmp .le 9, 3) := by decide +kernel
theorem dX3_row_14 : decode cX3_row 14 = .ok (.aload_n 0, 1) := by decide +kernel
theorem dX3_row_15 : decode cX3_row 15 = .ok (.iconst 1, 1) := by decide +kernel
theorem dX3_row_16 : decode cX3_row 16 = .ok (.invokevirtual 36, 3) := by decide +kernel
theorem dX3_row_19 : decode cX3_row 19 = .ok (.ireturn, 1) := by decide +kernel
theorem dX3_row_20 : decode cX3_row 20 = .ok (.iconst 0, 1) := by decide +kernel
theorem dX3_row_21 : decode cX3_row 21 = .ok (.istore_n 3, 1) := by decide +kernel
theorem dX3_row_22 : decode cX3_row 22 = .ok (.iconst 0, 1) := by decide +kernel
theorem dX3_row_23 : decode cX3_row 23 = .ok (.istore 4, 2) := by decide +kernel
theorem dX3_row_25 : decode cX3_row 25 = .ok (.iload 4, 2) := by decide +kernel
theorem dX3_row_27 : decode cX3_row 27 = .ok (.iconst 4, 1) := by decide +kernel
theorem dX3_row_28 : decode cX3_row 28 = .ok (.if_icmp .ge 144, 3) := by decide +kernel
theorem dX3_row_31 : decode cX3_row 31 = .ok (.iconst 0, 1) := by decide +kernel
theorem dX3_row_32 : decode cX3_row 32 = .ok (.istore 5, 2) := by decide +kernel
theorem dX3_row_34 : decode cX3_row 34 = .ok (.iload 5, 2) := by decide +kernel
theorem dX3_row_36 : decode cX3_row 36 = .ok (.aload_n 0, 1) := by decide +kernel
theorem dX3_row_37 : decode cX3_row 37 = .ok (.getfield 33, 3) := by decide +kernel
theorem dX3_row_40 : decode cX3_row 40 = .ok (.if_icmp .gt 126, 3) := by decide +kernel
theorem dX3_row_43 : decode cX3_row 43 = .ok (.iconst 0, 1) := by decide +kernel
theorem dX3_row_44 : decode cX3_row 44 = .ok (.istore 6, 2) := by decide +kernel
theorem dX3_row_46 : decode cX3_row 46 = .ok (.iload 6, 2) := by decide +kernel
theorem dX3_row_48 : decode cX3_row 48 = .ok (.bipush 32, 2) := by decide +kernel
theorem dX3_row_50 : decode cX3_row 50 = .ok (.if_icmp .ge 110, 3) := by decide +kernel
theorem dX3_row_53 : decode cX3_row 53 = .ok (.aload_n 0, 1) := by decide +kernel
theorem dX3_row_54 : decode cX3_row 54 = .ok (.iload 5, 2) := by decide +kernel
theorem dX3_row_56 : decode cX3_row 56 = .ok (.iload 4, 2) := by decide +kernel
theorem dX3_row_58 : decode cX3_row 58 = .ok (.iload 6, 2) := by decide +kernel
theorem dX3_row_60 : decode cX3_row 60 = .ok (.invokevirtual 59, 3) := by decide +kernel
theorem dX3_row_63 : decode cX3_row 63 = .ok (.ifCond .eq 91, 3) := by decide +kernel
theorem dX3_row_66 : decode cX3_row 66 = .ok (.iload_n 3, 1) := by decide +kernel
theorem dX3_row_67 : decode cX3_row 67 = .ok (.iload_n 1, 1) := by decide +kernel
theorem dX3_row_68 : decode cX3_row 68 = .ok (.if_icmp .ne 83, 3) := by decide +kernel
theorem dX3_row_71 : decode cX3_row 71 = .ok (.iload_n 2, 1) := by decide +kernel
theorem dX3_row_72 : decode cX3_row 72 = .ok (.ifCond .ne 8, 3) := by decide +kernel
theorem dX3_row_75 : decode cX3_row 75 = .ok (.iload 4, 2) := by decide +kernel
theorem dX3_row_77 : decode cX3_row 77 = .ok (.goto 73, 3) := by decide +kernel
theorem dX3_row_80 : decode cX3_row 80 = .ok (.iload_n 2, 1) := by decide +kernel
theorem dX3_row_81 : decode cX3_row 81 = .ok (.iconst 1, 1) := by decide +kernel
theorem dX3_row_82 : decode cX3_row 82 = .ok (.if_icmp .ne 20, 3) := by decide +kernel
theorem dX3_row_85 : decode cX3_row 85 = .ok (.aload_n 0, 1) := by decide +kernel
theorem dX3_row_86 : decode cX3_row 86 = .ok (.getfield 13, 3) := by decide +kernel
theorem dX3_row_89 : decode cX3_row 89 = .ok (.iload 5, 2) := by decide +kernel
theorem dX3_row_91 : decode cX3_row 91 = .ok (.iload 4, 2) := by decide +kernel
theorem dX3_row_93 : decode cX3_row 93 = .ok (.iload 6, 2) := by decide +kernel
theorem dX3_row_95 : decode cX3_row 95 = .ok (.invokestatic 40, 3) := by decide +kernel
theorem dX3_row_98 : decode cX3_row 98 = .ok (.iaload, 1) := by decide +kernel
theorem dX3_row_99 : decode cX3_row 99 = .ok (.goto 51, 3) := by decide +kernel
theorem dX3_row_102 : decode cX3_row 102 = .ok (.iload_n 2, 1) := by decide +kernel
theorem dX3_row_103 : decode cX3_row 103 = .ok (.iconst 2, 1) := by decide +kernel
theorem dX3_row_104 : decode cX3_row 104 = .ok (.if_icmp .ne 8, 3) := by decide +kernel
theorem dX3_row_107 : decode cX3_row 107 = .ok (.iload 6, 2) := by decide +kernel
theorem dX3_row_109 : decode cX3_row 109 = .ok (.goto 41, 3) := by decide +kernel
theorem dX3_row_112 : decode cX3_row 112 = .ok (.iload_n 2, 1) := by decide +kernel
theorem dX3_row_113 : decode cX3_row 113 = .ok (.iconst 3, 1) := by decide +kernel
theorem dX3_row_114 : decode cX3_row 114 = .ok (.if_icmp .ne 16, 3) := by decide +kernel
theorem dX3_row_117 : decode cX3_row 117 = .ok (.aload_n 0, 1) := by decide +kernel
theorem dX3_row_118 : decode cX3_row 118 = .ok (.iload 5, 2) := by decide +kernel
theorem dX3_row_120 : decode cX3_row 120 = .ok (.iload 4, 2) := by decide +kernel
theorem dX3_row_122 : decode cX3_row 122 = .ok (.iload 6, 2) := by decide +kernel
theorem dX3_row_124 : decode cX3_row 124 = .ok (.invokevirtual 52, 3) := by decide +kernel
theorem dX3_row_127 : decode cX3_row 127 = .ok (.goto 23, 3) := by decide +kernel
theorem dX3_row_130 : decode cX3_row 130 = .ok (.iload_n 2, 1) := by decide +kernel
theorem dX3_row_131 : decode cX3_row 131 = .ok (.iconst 4, 1) := by decide +kernel
theorem dX3_row_132 : decode cX3_row 132 = .ok (.if_icmp .ne 8, 3) := by decide +kernel
theorem dX3_row_135 : decode cX3_row 135 = .ok (.iload 5, 2) := by decide +kernel
theorem dX3_row_137 : decode cX3_row 137 = .ok (.goto 13, 3) := by decide +kernel
theorem dX3_row_140 : decode cX3_row 140 = .ok (.aload_n 0, 1) := by decide +kernel
theorem dX3_row_141 : decode cX3_row 141 = .ok (.iload 5, 2) := by decide +kernel
theorem dX3_row_143 : decode cX3_row 143 = .ok (.iload 4, 2) := by decide +kernel
theorem dX3_row_145 : decode cX3_row 145 = .ok (.iload 6, 2) := by decide +kernel
theorem dX3_row_147 : decode cX3_row 147 = .ok (.invokevirtual 103, 3) := by decide +kernel
theorem dX3_row_150 : decode cX3_row 150 = .ok (.ireturn, 1) := by decide +kernel
theorem dX3_row_151 : decode cX3_row 151 = .ok (.iinc 3 1, 3) := by decide +kernel
theorem dX3_row_154 : decode cX3_row 154 = .ok (.iinc 6 1, 3) := by decide +kernel
theorem dX3_row_157 : decode cX3_row 157 = .ok (.goto (-111), 3) := by decide +kernel
theorem dX3_row_160 : decode cX3_row 160 = .ok (.iinc 5 1, 3) := by decide +kernel
theorem dX3_row_163 : decode cX3_row 163 = .ok (.goto (-129), 3) := by decide +kernel
theorem dX3_row_166 : decode cX3_row 166 = .ok (.iinc 4 1, 3) := by decide +kernel
theorem dX3_row_169 : decode cX3_row 169 = .ok (.goto (-144), 3) := by decide +kernel
theorem dX3_row_172 : decode cX3_row 172 = .ok (.aload_n 0, 1) := by decide +kernel
theorem dX3_row_173 : decode cX3_row 173 = .ok (.iconst 2, 1) := by decide +kernel
theorem dX3_row_174 : decode cX3_row 174 = .ok (.invokevirtual 36, 3) := by decide +kernel
theorem dX3_row_177 : decode cX3_row 177 = .ok (.ireturn, 1) := by decide +kernel
theorem dX3_changes_0 : decode cX3_changes 0 = .ok (.aload_n 0, 1) := by decide +kernel
theorem dX3_changes_1 : decode cX3_changes 1 = .ok (.iconst 0, 1) := by decide +kernel
theorem dX3_changes_2 : decode cX3_changes 2 = .ok (.putfield 30, 3) := by decide +kernel
theorem dX3_changes_5 : decode cX3_changes 5 = .ok (.iload_n 1, 1) := by decide +kernel
theorem dX3_changes_6 : decode cX3_changes 6 = .ok (.invokestatic 65, 3) := by decide +kernel
theorem dX3_changes_9 : decode cX3_changes 9 = .ok (.ifCond .eq 10, 3) := by decide +kernel
theorem dX3_changes_12 : decode cX3_changes 12 = .ok (.iload_n 2, 1) := by decide +kernel
theorem dX3_changes_13 : decode cX3_changes 13 = .ok (.invokestatic 97, 3) := by decide +kernel
theorem dX3_changes_16 : decode cX3_changes 16 = .ok (.ifCond .ne 9, 3) := by decide +kernel
theorem dX3_changes_19 : decode cX3_changes 19 = .ok (.aload_n 0, 1) := by decide +kernel
theorem dX3_changes_20 : decode cX3_changes 20 = .ok (.iconst 1, 1) := by decide +kernel
theorem dX3_changes_21 : decode cX3_changes 21 = .ok (.invokevirtual 36, 3) := by decide +kernel
theorem dX3_changes_24 : decode cX3_changes 24 = .ok (.ireturn, 1) := by decide +kernel
theorem dX3_changes_25 : decode cX3_changes 25 = .ok (.iconst 0, 1) := by decide +kernel
theorem dX3_changes_26 : decode cX3_changes 26 = .ok (.istore_n 3, 1) := by decide +kernel
theorem dX3_changes_27 : decode cX3_changes 27 = .ok (.iconst 1, 1) := by decide +kernel
theorem dX3_changes_28 : decode cX3_changes 28 = .ok (.istore 4, 2) := by decide +kernel
theorem dX3_changes_30 : decode cX3_changes 30 = .ok (.iload 4, 2) := by decide +kernel
theorem dX3_changes_32 : decode cX3_changes 32 = .ok (.aload_n 0, 1) := by decide +kernel
theorem dX3_changes_33 : decode cX3_changes 33 = .ok (.getfield 33, 3) := by decide +kernel
theorem dX3_changes_36 : decode cX3_changes 36 = .ok (.if_icmp .gt 81, 3) := by decide +kernel
theorem dX3_changes_39 : decode cX3_changes 39 = .ok (.iload 4, 2) := by decide +kernel
theorem dX3_changes_41 : decode cX3_changes 41 = .ok (.iconst 1, 1) := by decide +kernel
theorem dX3_changes_42 : decode cX3_changes 42 = .ok (.isub, 1) := by decide +kernel
theorem dX3_changes_43 : decode cX3_changes 43 = .ok (.iload_n 1, 1) := by decide +kernel
theorem dX3_changes_44 : decode cX3_changes 44 = .ok (.iload_n 2, 1) := by decide +kernel
theorem dX3_changes_45 : decode cX3_changes 45 = .ok (.invokestatic 40, 3) := by decide +kernel
theorem dX3_changes_48 : decode cX3_changes 48 = .ok (.istore 5, 2) := by decide +kernel
theorem dX3_changes_50 : decode cX3_changes 50 = .ok (.iload 4, 2) := by decide +kernel
theorem dX3_changes_52 : decode cX3_changes 52 = .ok (.iload_n 1, 1) := by decide +kernel
theorem dX3_changes_53 : decode cX3_changes 53 = .ok (.iload_n 2, 1) := by decide +kernel
theorem dX3_changes_54 : decode cX3_changes 54 = .ok (.invokestatic 40, 3) := by decide +kernel
theorem dX3_changes_57 : decode cX3_changes 57 = .ok (.istore 6, 2) := by decide +kernel
theorem dX3_changes_59 : decode cX3_changes 59 = .ok (.iload_n 3, 1) := by decide +kernel
theorem dX3_changes_60 : decode cX3_changes 60 = .ok (.aload_n 0, 1) := by decide +kernel
theorem dX3_changes_61 : decode cX3_changes 61 = .ok (.getfield 7, 3) := by decide +kernel
theorem dX3_changes_64 : decode cX3_changes 64 = .ok (.iload 5, 2) := by decide +kernel
theorem dX3_changes_66 : decode cX3_changes 66 = .ok (.baload, 1) := by decide +kernel
theorem dX3_changes_67 : decode cX3_changes 67 = .ok (.aload_n 0, 1) := by decide +kernel
theorem dX3_changes_68 : decode cX3_changes 68 = .ok (.getfield 7, 3) := by decide +kernel
theorem dX3_changes_71 : decode cX3_changes 71 = .ok (.iload 6, 2) := by decide +kernel
theorem dX3_changes_73 : decode cX3_changes 73 = .ok (.baload, 1) := by decide +kernel
theorem dX3_changes_74 : decode cX3_changes 74 = .ok (.if_icmp .ne 30, 3) := by decide +kernel
theorem dX3_changes_77 : decode cX3_changes 77 = .ok (.aload_n 0, 1) := by decide +kernel
theorem dX3_changes_78 : decode cX3_changes 78 = .ok (.getfield 7, 3) := by decide +kernel
theorem dX3_changes_81 : decode cX3_changes 81 = .ok (.iload 5, 2) := by decide +kernel
theorem dX3_changes_83 : decode cX3_changes 83 = .ok (.baload, 1) := by decide +kernel
theorem dX3_changes_84 : decode cX3_changes 84 = .ok (.ifCond .eq 24, 3) := by decide +kernel
theorem dX3_changes_87 : decode cX3_changes 87 = .ok (.aload_n 0, 1) := by decide +kernel
theorem dX3_changes_88 : decode cX3_changes 88 = .ok (.getfield 13, 3) := by decide +kernel
theorem dX3_changes_91 : decode cX3_changes 91 = .ok (.iload 5, 2) := by decide +kernel
theorem dX3_changes_93 : decode cX3_changes 93 = .ok (.iaload, 1) := by decide +kernel
theorem dX3_changes_94 : decode cX3_changes 94 = .ok (.aload_n 0, 1) := by decide +kernel
theorem dX3_changes_95 : decode cX3_changes 95 = .ok (.getfield 13, 3) := by decide +kernel
theorem dX3_changes_98 : decode cX3_changes 98 = .ok (.iload 6, 2) := by decide +kernel
theorem dX3_changes_100 : decode cX3_changes 100 = .ok (.iaload, 1) := by decide +kernel
theorem dX3_changes_101 : decode cX3_changes 101 = .ok (.if_icmp .eq 7, 3) := by decide +kernel
theorem dX3_changes_104 : decode cX3_changes 104 = .ok (.iconst 1, 1) := by decide +kernel
theorem dX3_changes_105 : decode cX3_changes 105 = .ok (.goto 4, 3) := by decide +kernel
theorem dX3_changes_108 : decode cX3_changes 108 = .ok (.iconst 0, 1) := by decide +kernel
theorem dX3_changes_109 : decode cX3_changes 109 = .ok (.iadd, 1) := by decide +kernel
theorem dX3_changes_110 : decode cX3_changes 110 = .ok (.istore_n 3, 1) := by decide +kernel
theorem dX3_changes_111 : decode cX3_changes 111 = .ok (.iinc 4 1, 3) := by decide +kernel
theorem dX3_changes_114 : decode cX3_changes 114 = .ok (.goto (-84), 3) := by decide +kernel
theorem dX3_changes_117 : decode cX3_changes 117 = .ok (.iload_n 3, 1) := by decide +kernel
theorem dX3_changes_118 : decode cX3_changes 118 = .ok (.ireturn, 1) := by decide +kernel
theorem dX3_early_0 : decode cX3_early 0 = .ok (.iload_n 1, 1) := by decide +kernel
theorem dX3_early_1 : decode cX3_early 1 = .ok (.iload_n 2, 1) := by decide +kernel
theorem dX3_early_2 : decode cX3_early 2 = .ok (.if_icmp .ge 5, 3) := by decide +kernel
theorem dX3_early_5 : decode cX3_early 5 = .ok (.iconst 0, 1) := by decide +kernel
theorem dX3_early_6 : decode cX3_early 6 = .ok (.ireturn, 1) := by decide +kernel
theorem dX3_early_7 : decode cX3_early 7 = .ok (.iload_n 1, 1) := by decide +kernel
theorem dX3_early_8 : decode cX3_early 8 = .ok (.iload_n 2, 1) := by decide +kernel
theorem dX3_early_9 : decode cX3_early 9 = .ok (.if_icmp .ne 5, 3) := by decide +kernel
theorem dX3_early_12 : decode cX3_early 12 = .ok (.iconst 1, 1) := by decide +kernel
theorem dX3_early_13 : decode cX3_early 13 = .ok (.ireturn, 1) := by decide +kernel
theorem dX3_early_14 : decode cX3_early 14 = .ok (.iload_n 0, 1) := by decide +kernel
theorem dX3_early_15 : decode cX3_early 15 = .ok (.iload_n 2, 1) := by decide +kernel
theorem dX3_early_16 : decode cX3_early 16 = .ok (.if_icmp .ge 10, 3) := by decide +kernel
theorem dX3_early_19 : decode cX3_early 19 = .ok (.iload_n 1, 1) := by decide +kernel
theorem dX3_early_20 : decode cX3_early 20 = .ok (.iload_n 3, 1) := by decide +kernel
theorem dX3_early_21 : decode cX3_early 21 = .ok (.if_icmp .ge 5, 3) := by decide +kernel
theorem dX3_early_24 : decode cX3_early 24 = .ok (.iconst 2, 1) := by decide +kernel
theorem dX3_early_25 : decode cX3_early 25 = .ok (.ireturn, 1) := by decide +kernel
theorem dX3_early_26 : decode cX3_early 26 = .ok (.iload_n 0, 1) := by decide +kernel
theorem dX3_early_27 : decode cX3_early 27 = .ok (.iload_n 2, 1) := by decide +kernel
theorem dX3_early_28 : decode cX3_early 28 = .ok (.if_icmp .ne 10, 3) := by decide +kernel
theorem dX3_early_31 : decode cX3_early 31 = .ok (.iload_n 1, 1) := by decide +kernel
theorem dX3_early_32 : decode cX3_early 32 = .ok (.iload_n 3, 1) := by decide +kernel
theorem dX3_early_33 : decode cX3_early 33 = .ok (.if_icmp .ge 5, 3) := by decide +kernel
theorem dX3_early_36 : decode cX3_early 36 = .ok (.iconst 3, 1) := by decide +kernel
theorem dX3_early_37 : decode cX3_early 37 = .ok (.ireturn, 1) := by decide +kernel
theorem dX3_early_38 : decode cX3_early 38 = .ok (.iload_n 0, 1) := by decide +kernel
theorem dX3_early_39 : decode cX3_early 39 = .ok (.iload_n 2, 1) := by decide +kernel
theorem dX3_early_40 : decode cX3_early 40 = .ok (.if_icmp .le 19, 3) := by decide +kernel
theorem dX3_early_43 : decode cX3_early 43 = .ok (.iload_n 1, 1) := by decide +kernel
theorem dX3_early_44 : decode cX3_early 44 = .ok (.iload_n 3, 1) := by decide +kernel
theorem dX3_early_45 : decode cX3_early 45 = .ok (.if_icmp .ge 14, 3) := by decide +kernel
theorem dX3_early_48 : decode cX3_early 48 = .ok (.iload_n 0, 1) := by decide +kernel
theorem dX3_early_49 : decode cX3_early 49 = .ok (.iload_n 3, 1) := by decide +kernel
theorem dX3_early_50 : decode cX3_early 50 = .ok (.if_icmp .ge 7, 3) := by decide +kernel
theorem dX3_early_53 : decode cX3_early 53 = .ok (.iconst 4, 1) := by decide +kernel
theorem dX3_early_54 : decode cX3_early 54 = .ok (.goto 4, 3) := by decide +kernel
theorem dX3_early_57 : decode cX3_early 57 = .ok (.iconst (-1), 1) := by decide +kernel
theorem dX3_early_58 : decode cX3_early 58 = .ok (.ireturn, 1) := by decide +kernel
theorem dX3_early_59 : decode cX3_early 59 = .ok (.iload_n 0, 1) := by decide +kernel
theorem dX3_early_60 : decode cX3_early 60 = .ok (.iload_n 2, 1) := by decide +kernel
theorem dX3_early_61 : decode cX3_early 61 = .ok (.if_icmp .le 10, 3) := by decide +kernel
theorem dX3_early_64 : decode cX3_early 64 = .ok (.iload_n 1, 1) := by decide +kernel
theorem dX3_early_65 : decode cX3_early 65 = .ok (.iload_n 3, 1) := by decide +kernel
theorem dX3_early_66 : decode cX3_early 66 = .ok (.if_icmp .ne 5, 3) := by decide +kernel
theorem dX3_early_69 : decode cX3_early 69 = .ok (.iconst 5, 1) := by decide +kernel
theorem dX3_early_70 : decode cX3_early 70 = .ok (.ireturn, 1) := by decide +kernel
theorem dX3_early_71 : decode cX3_early 71 = .ok (.iload_n 0, 1) := by decide +kernel
theorem dX3_early_72 : decode cX3_early 72 = .ok (.iload_n 2, 1) := by decide +kernel
theorem dX3_early_73 : decode cX3_early 73 = .ok (.if_icmp .ne 13, 3) := by decide +kernel
theorem dX3_early_76 : decode cX3_early 76 = .ok (.iload_n 1, 1) := by decide +kernel
theorem dX3_early_77 : decode cX3_early 77 = .ok (.iload_n 3, 1) := by decide +kernel
theorem dX3_early_78 : decode cX3_early 78 = .ok (.if_icmp .ne 8, 3) := by decide +kernel
theorem dX3_early_81 : decode cX3_early 81 = .ok (.bipush 6, 2) := by decide +kernel
theorem dX3_early_83 : decode cX3_early 83 = .ok (.goto 4, 3) := by decide +kernel
theorem dX3_early_86 : decode cX3_early 86 = .ok (.iconst (-1), 1) := by decide +kernel
theorem dX3_early_87 : decode cX3_early 87 = .ok (.ireturn, 1) := by decide +kernel
theorem dX3_lies_0 : decode cX3_lies 0 = .ok (.iload_n 0, 1) := by decide +kernel
theorem dX3_lies_1 : decode cX3_lies 1 = .ok (.iload_n 1, 1) := by decide +kernel
theorem dX3_lies_2 : decode cX3_lies 2 = .ok (.iload_n 2, 1) := by decide +kernel
theorem dX3_lies_3 : decode cX3_lies 3 = .ok (.iload_n 3, 1) := by decide +kernel
theorem dX3_lies_4 : decode cX3_lies 4 = .ok (.invokestatic 106, 3) := by decide +kernel
theorem dX3_lies_7 : decode cX3_lies 7 = .ok (.istore 4, 2) := by decide +kernel
theorem dX3_lies_9 : decode cX3_lies 9 = .ok (.iload 4, 2) := by decide +kernel
theorem dX3_lies_11 : decode cX3_lies 11 = .ok (.ifCond .lt 8, 3) := by decide +kernel
theorem dX3_lies_14 : decode cX3_lies 14 = .ok (.iload 4, 2) := by decide +kernel
theorem dX3_lies_16 : decode cX3_lies 16 = .ok (.goto 13, 3) := by decide +kernel
theorem dX3_lies_19 : decode cX3_lies 19 = .ok (.bipush 12, 2) := by decide +kernel
theorem dX3_lies_21 : decode cX3_lies 21 = .ok (.iload_n 2, 1) := by decide +kernel
theorem dX3_lies_22 : decode cX3_lies 22 = .ok (.iload_n 3, 1) := by decide +kernel
theorem dX3_lies_23 : decode cX3_lies 23 = .ok (.iload_n 0, 1) := by decide +kernel
theorem dX3_lies_24 : decode cX3_lies 24 = .ok (.iload_n 1, 1) := by decide +kernel
theorem dX3_lies_25 : decode cX3_lies 25 = .ok (.invokestatic 106, 3) := by decide +kernel
theorem dX3_lies_28 : decode cX3_lies 28 = .ok (.isub, 1) := by decide +kernel
theorem dX3_lies_29 : decode cX3_lies 29 = .ok (.ireturn, 1) := by decide +kernel
theorem dX3_relation_0 : decode cX3_relation 0 = .ok (.aload_n 0, 1) := by decide +kernel
theorem dX3_relation_1 : decode cX3_relation 1 = .ok (.iconst 0, 1) := by decide +kernel
theorem dX3_relation_2 : decode cX3_relation 2 = .ok (.putfield 30, 3) := by decide +kernel
theorem dX3_relation_5 : decode cX3_relation 5 = .ok (.iload_n 1, 1) := by decide +kernel
theorem dX3_relation_6 : decode cX3_relation 6 = .ok (.iload_n 2, 1) := by decide +kernel
theorem dX3_relation_7 : decode cX3_relation 7 = .ok (.invokestatic 69, 3) := by decide +kernel
theorem dX3_relation_10 : decode cX3_relation 10 = .ok (.ifCond .eq 12, 3) := by decide +kernel
theorem dX3_relation_13 : decode cX3_relation 13 = .ok (.iload_n 3, 1) := by decide +kernel
theorem dX3_relation_14 : decode cX3_relation 14 = .ok (.iload 4, 2) := by decide +kernel
theorem dX3_relation_16 : decode cX3_relation 16 = .ok (.invokestatic 69, 3) := by decide +kernel
theorem dX3_relation_19 : decode cX3_relation 19 = .ok (.ifCond .ne 9, 3) := by decide +kernel
theorem dX3_relation_22 : decode cX3_relation 22 = .ok (.aload_n 0, 1) := by decide +kernel
theorem dX3_relation_23 : decode cX3_relation 23 = .ok (.iconst 1, 1) := by decide +kernel
theorem dX3_relation_24 : decode cX3_relation 24 = .ok (.invokevirtual 36, 3) := by decide +kernel
theorem dX3_relation_27 : decode cX3_relation 27 = .ok (.ireturn, 1) := by decide +kernel
theorem dX3_relation_28 : decode cX3_relation 28 = .ok (.iload_n 1, 1) := by decide +kernel
theorem dX3_relation_29 : decode cX3_relation 29 = .ok (.iload_n 2, 1) := by decide +kernel
theorem dX3_relation_30 : decode cX3_relation 30 = .ok (.iload_n 3, 1) := by decide +kernel
theorem dX3_relation_31 : decode cX3_relation 31 = .ok (.iload 4, 2) := by decide +kernel
theorem dX3_relation_33 : decode cX3_relation 33 = .ok (.invokestatic 110, 3) := by decide +kernel
theorem dX3_relation_36 : decode cX3_relation 36 = .ok (.ireturn, 1) := by decide +kernel
theorem dX3_join_0 : decode cX3_join 0 = .ok (.aload_n 0, 1) := by decide +kernel
theorem dX3_join_1 : decode cX3_join 1 = .ok (.iconst 0, 1) := by decide +kernel
theorem dX3_join_2 : decode cX3_join 2 = .ok (.putfield 30, 3) := by decide +kernel
theorem dX3_join_5 : decode cX3_join 5 = .ok (.iload_n 1, 1) := by decide +kernel
theorem dX3_join_6 : decode cX3_join 6 = .ok (.invokestatic 65, 3) := by decide +kernel
theorem dX3_join_9 : decode cX3_join 9 = .ok (.ifCond .eq 30, 3) := by decide +kernel
theorem dX3_join_12 : decode cX3_join 12 = .ok (.iload_n 2, 1) := by decide +kernel
theorem dX3_join_13 : decode cX3_join 13 = .ok (.invokestatic 65, 3) := by decide +kernel
theorem dX3_join_16 : decode cX3_join 16 = .ok (.ifCond .eq 23, 3) := by decide +kernel
theorem dX3_join_19 : decode cX3_join 19 = .ok (.aload_n 0, 1) := by decide +kernel
theorem dX3_join_20 : decode cX3_join 20 = .ok (.iload_n 3, 1) := by decide +kernel
theorem dX3_join_21 : decode cX3_join 21 = .ok (.invokevirtual 100, 3) := by decide +kernel
theorem dX3_join_24 : decode cX3_join 24 = .ok (.ifCond .eq 15, 3) := by decide +kernel
theorem dX3_join_27 : decode cX3_join 27 = .ok (.iload 4, 2) := by decide +kernel
theorem dX3_join_29 : decode cX3_join 29 = .ok (.ifCond .lt 10, 3) := by decide +kernel
theorem dX3_join_32 : decode cX3_join 32 = .ok (.iload 4, 2) := by decide +kernel
theorem dX3_join_34 : decode cX3_join 34 = .ok (.bipush 12, 2) := by decide +kernel
theorem dX3_join_36 : decode cX3_join 36 = .ok (.if_icmp .le 9, 3) := by decide +kernel
theorem dX3_join_39 : decode cX3_join 39 = .ok (.aload_n 0, 1) := by decide +kernel
theorem dX3_join_40 : decode cX3_join 40 = .ok (.iconst 1, 1) := by decide +kernel
theorem dX3_join_41 : decode cX3_join 41 = .ok (.invokevirtual 36, 3) := by decide +kernel
theorem dX3_join_44 : decode cX3_join 44 = .ok (.ireturn, 1) := by decide +kernel
theorem dX3_join_45 : decode cX3_join 45 = .ok (.iconst 0, 1) := by decide +kernel
theorem dX3_join_46 : decode cX3_join 46 = .ok (.istore 5, 2) := by decide +kernel
theorem dX3_join_48 : decode cX3_join 48 = .ok (.iconst 0, 1) := by decide +kernel
theorem dX3_join_49 : decode cX3_join 49 = .ok (.istore 6, 2) := by decide +kernel
theorem dX3_join_51 : decode cX3_join 51 = .ok (.iload 6, 2) := by decide +kernel
theorem dX3_join_53 : decode cX3_join 53 = .ok (.bipush 32, 2) := by decide +kernel
theorem dX3_join_55 : decode cX3_join 55 = .ok (.if_icmp .ge 97, 3) := by decide +kernel
theorem dX3_join_58 : decode cX3_join 58 = .ok (.iconst 0, 1) := by decide +kernel
theorem dX3_join_59 : decode cX3_join 59 = .ok (.istore 7, 2) := by decide +kernel
theorem dX3_join_61 : decode cX3_join 61 = .ok (.iload 7, 2) := by decide +kernel
theorem dX3_join_63 : decode cX3_join 63 = .ok (.bipush 32, 2) := by decide +kernel
theorem dX3_join_65 : decode cX3_join 65 = .ok (.if_icmp .ge 81, 3) := by decide +kernel
theorem dX3_join_68 : decode cX3_join 68 = .ok (.aload_n 0, 1) := by decide +kernel
theorem dX3_join_69 : decode cX3_join 69 = .ok (.iload_n 3, 1) := by decide +kernel
theorem dX3_join_70 : decode cX3_join 70 = .ok (.iload_n 1, 1) := by decide +kernel
theorem dX3_join_71 : decode cX3_join 71 = .ok (.iload 6, 2) := by decide +kernel
theorem dX3_join_73 : decode cX3_join 73 = .ok (.invokevirtual 48, 3) := by decide +kernel
theorem dX3_join_76 : decode cX3_join 76 = .ok (.ifCond .eq 18, 3) := by decide +kernel
theorem dX3_join_79 : decode cX3_join 79 = .ok (.aload_n 0, 1) := by decide +kernel
theorem dX3_join_80 : decode cX3_join 80 = .ok (.iload_n 3, 1) := by decide +kernel
theorem dX3_join_81 : decode cX3_join 81 = .ok (.iload_n 2, 1) := by decide +kernel
theorem dX3_join_82 : decode cX3_join 82 = .ok (.iload 7, 2) := by decide +kernel
theorem dX3_join_84 : decode cX3_join 84 = .ok (.invokevirtual 48, 3) := by decide +kernel
theorem dX3_join_87 : decode cX3_join 87 = .ok (.ifCond .eq 7, 3) := by decide +kernel
theorem dX3_join_90 : decode cX3_join 90 = .ok (.iconst 1, 1) := by decide +kernel
theorem dX3_join_91 : decode cX3_join 91 = .ok (.goto 4, 3) := by decide +kernel
theorem dX3_join_94 : decode cX3_join 94 = .ok (.iconst 0, 1) := by decide +kernel
theorem dX3_join_95 : decode cX3_join 95 = .ok (.istore 8, 2) := by decide +kernel
theorem dX3_join_97 : decode cX3_join 97 = .ok (.iload 5, 2) := by decide +kernel
theorem dX3_join_99 : decode cX3_join 99 = .ok (.iload 8, 2) := by decide +kernel
theorem dX3_join_101 : decode cX3_join 101 = .ok (.ifCond .eq 35, 3) := by decide +kernel
theorem dX3_join_104 : decode cX3_join 104 = .ok (.iload 6, 2) := by decide +kernel
theorem dX3_join_106 : decode cX3_join 106 = .ok (.aload_n 0, 1) := by decide +kernel
theorem dX3_join_107 : decode cX3_join 107 = .ok (.iload_n 3, 1) := by decide +kernel
theorem dX3_join_108 : decode cX3_join 108 = .ok (.iload_n 1, 1) := by decide +kernel
theorem dX3_join_109 : decode cX3_join 109 = .ok (.iload 6, 2) := by decide +kernel
theorem dX3_join_111 : decode cX3_join 111 = .ok (.invokevirtual 52, 3) := by decide +kernel
theorem dX3_join_114 : decode cX3_join 114 = .ok (.iload 7, 2) := by decide +kernel
theorem dX3_join_116 : decode cX3_join 116 = .ok (.aload_n 0, 1) := by decide +kernel
theorem dX3_join_117 : decode cX3_join 117 = .ok (.iload_n 3, 1) := by decide +kernel
theorem dX3_join_118 : decode cX3_join 118 = .ok (.iload_n 2, 1) := by decide +kernel
theorem dX3_join_119 : decode cX3_join 119 = .ok (.iload 7, 2) := by decide +kernel
theorem dX3_join_121 : decode cX3_join 121 = .ok (.invokevirtual 52, 3) := by decide +kernel
theorem dX3_join_124 : decode cX3_join 124 = .ok (.invokestatic 110, 3) := by decide +kernel
theorem dX3_join_127 : decode cX3_join 127 = .ok (.iload 4, 2) := by decide +kernel
theorem dX3_join_129 : decode cX3_join 129 = .ok (.if_icmp .ne 7, 3) := by decide +kernel
theorem dX3_join_132 : decode cX3_join 132 = .ok (.iconst 1, 1) := by decide +kernel
theorem dX3_join_133 : decode cX3_join 133 = .ok (.goto 4, 3) := by decide +kernel
theorem dX3_join_136 : decode cX3_join 136 = .ok (.iconst 0, 1) := by decide +kernel
theorem dX3_join_137 : decode cX3_join 137 = .ok (.iadd, 1) := by decide +kernel
theorem dX3_join_138 : decode cX3_join 138 = .ok (.istore 5, 2) := by decide +kernel
theorem dX3_join_140 : decode cX3_join 140 = .ok (.iinc 7 1, 3) := by decide +kernel
theorem dX3_join_143 : decode cX3_join 143 = .ok (.goto (-82), 3) := by decide +kernel
theorem dX3_join_146 : decode cX3_join 146 = .ok (.iinc 6 1, 3) := by decide +kernel
theorem dX3_join_149 : decode cX3_join 149 = .ok (.goto (-98), 3) := by decide +kernel
theorem dX3_join_152 : decode cX3_join 152 = .ok (.iload 5, 2) := by decide +kernel
theorem dX3_join_154 : decode cX3_join 154 = .ok (.ireturn, 1) := by decide +kernel
end
section
theorem dL_tick_0 : decode cL_tick 0 = .ok (.aload_n 1, 1) := by decide +kernel
theorem dL_tick_1 : decode cL_tick 1 = .ok (.iconst 0, 1) := by decide +kernel
theorem dL_tick_2 : decode cL_tick 2 = .ok (.aload_n 0, 1) := by decide +kernel
theorem dL_tick_3 : decode cL_tick 3 = .ok (.invokevirtual 7, 3) := by decide +kernel
theorem dL_tick_6 : decode cL_tick 6 = .ok (.i2l, 1) := by decide +kernel
theorem dL_tick_7 : decode cL_tick 7 = .ok (.lastore, 1) := by decide +kernel
theorem dL_tick_8 : decode cL_tick 8 = .ok (.goto 6, 3) := by decide +kernel
theorem dL_tick_11 : decode cL_tick 11 = .ok (.astore_n 2, 1) := by decide +kernel
theorem dL_tick_12 : decode cL_tick 12 = .ok (.iconst 1, 1) := by decide +kernel
theorem dL_tick_13 : decode cL_tick 13 = .ok (.ireturn, 1) := by decide +kernel
theorem dL_tick_14 : decode cL_tick 14 = .ok (.iconst 0, 1) := by decide +kernel
theorem dL_tick_15 : decode cL_tick 15 = .ok (.ireturn, 1) := by decide +kernel
theorem dL_state_0 : decode cL_state 0 = .ok (.aload 6, 2) := by decide +kernel
theorem dL_state_2 : decode cL_state 2 = .ok (.iconst 0, 1) := by decide +kernel
theorem dL_state_3 : decode cL_state 3 = .ok (.aload_n 0, 1) := by decide +kernel
theorem dL_state_4 : decode cL_state 4 = .ok (.iload_n 1, 1) := by decide +kernel
theorem dL_state_5 : decode cL_state 5 = .ok (.iload_n 2, 1) := by decide +kernel
theorem dL_state_6 : decode cL_state 6 = .ok (.iload_n 3, 1) := by decide +kernel
theorem dL_state_7 : decode cL_state 7 = .ok (.iload 4, 2) := by decide +kernel
theorem dL_state_9 : decode cL_state 9 = .ok (.iload 5, 2) := by decide +kernel
theorem dL_state_11 : decode cL_state 11 = .ok (.invokevirtual 15, 3) := by decide +kernel
theorem dL_state_14 : decode cL_state 14 = .ok (.i2l, 1) := by decide +kernel
theorem dL_state_15 : decode cL_state 15 = .ok (.lastore, 1) := by decide +kernel
theorem dL_state_16 : decode cL_state 16 = .ok (.goto 15, 3) := by decide +kernel
theorem dL_state_19 : decode cL_state 19 = .ok (.astore 7, 2) := by decide +kernel
theorem dL_state_21 : decode cL_state 21 = .ok (.iconst 1, 1) := by decide +kernel
theorem dL_state_22 : decode cL_state 22 = .ok (.ireturn, 1) := by decide +kernel
theorem dL_state_23 : decode cL_state 23 = .ok (.astore 7, 2) := by decide +kernel
theorem dL_state_25 : decode cL_state 25 = .ok (.iconst 2, 1) := by decide +kernel
theorem dL_state_26 : decode cL_state 26 = .ok (.ireturn, 1) := by decide +kernel
theorem dL_state_27 : decode cL_state 27 = .ok (.astore 7, 2) := by decide +kernel
theorem dL_state_29 : decode cL_state 29 = .ok (.iconst 3, 1) := by decide +kernel
theorem dL_state_30 : decode cL_state 30 = .ok (.ireturn, 1) := by decide +kernel
theorem dL_state_31 : decode cL_state 31 = .ok (.iconst 0, 1) := by decide +kernel
theorem dL_state_32 : decode cL_state 32 = .ok (.ireturn, 1) := by decide +kernel
theorem dL_commit_0 : decode cL_commit 0 = .ok (.aload_n 1, 1) := by decide +kernel
theorem dL_commit_1 : decode cL_commit 1 = .ok (.iconst 0, 1) := by decide +kernel
theorem dL_commit_2 : decode cL_commit 2 = .ok (.aload_n 0, 1) := by decide +kernel
theorem dL_commit_3 : decode cL_commit 3 = .ok (.invokevirtual 23, 3) := by decide +kernel
theorem dL_commit_6 : decode cL_commit 6 = .ok (.i2l, 1) := by decide +kernel
theorem dL_commit_7 : decode cL_commit 7 = .ok (.lastore, 1) := by decide +kernel
theorem dL_commit_8 : decode cL_commit 8 = .ok (.goto 12, 3) := by decide +kernel
theorem dL_commit_11 : decode cL_commit 11 = .ok (.astore_n 2, 1) := by decide +kernel
theorem dL_commit_12 : decode cL_commit 12 = .ok (.iconst 1, 1) := by decide +kernel
theorem dL_commit_13 : decode cL_commit 13 = .ok (.ireturn, 1) := by decide +kernel
theorem dL_commit_14 : decode cL_commit 14 = .ok (.astore_n 2, 1) := by decide +kernel
theorem dL_commit_15 : decode cL_commit 15 = .ok (.iconst 2, 1) := by decide +kernel
theorem dL_commit_16 : decode cL_commit 16 = .ok (.ireturn, 1) := by decide +kernel
theorem dL_commit_17 : decode cL_commit 17 = .ok (.astore_n 2, 1) := by decide +kernel
theorem dL_commit_18 : decode cL_commit 18 = .ok (.iconst 3, 1) := by decide +kernel
theorem dL_commit_19 : decode cL_commit 19 = .ok (.ireturn, 1) := by decide +kernel
theorem dL_commit_20 : decode cL_commit 20 = .ok (.iconst 0, 1) := by decide +kernel
theorem dL_commit_21 : decode cL_commit 21 = .ok (.ireturn, 1) := by decide +kernel
theorem dL_value_0 : decode cL_value 0 = .ok (.aload 4, 2) := by decide +kernel
theorem dL_value_2 : decode cL_value 2 = .ok (.iconst 0, 1) := by decide +kernel
theorem dL_value_3 : decode cL_value 3 = .ok (.aload_n 0, 1) := by decide +kernel
theorem dL_value_4 : decode cL_value 4 = .ok (.iload_n 1, 1) := by decide +kernel
theorem dL_value_5 : decode cL_value 5 = .ok (.iload_n 2, 1) := by decide +kernel
theorem dL_value_6 : decode cL_value 6 = .ok (.iload_n 3, 1) := by decide +kernel
theorem dL_value_7 : decode cL_value 7 = .ok (.invokevirtual 26, 3) := by decide +kernel
theorem dL_value_10 : decode cL_value 10 = .ok (.i2l, 1) := by decide +kernel
theorem dL_value_11 : decode cL_value 11 = .ok (.lastore, 1) := by decide +kernel
theorem dL_value_12 : decode cL_value 12 = .ok (.goto 11, 3) := by decide +kernel
theorem dL_value_15 : decode cL_value 15 = .ok (.astore 5, 2) := by decide +kernel
theorem dL_value_17 : decode cL_value 17 = .ok (.iconst 1, 1) := by decide +kernel
theorem dL_value_18 : decode cL_value 18 = .ok (.ireturn, 1) := by decide +kernel
theorem dL_value_19 : decode cL_value 19 = .ok (.astore 5, 2) := by decide +kernel
theorem dL_value_21 : decode cL_value 21 = .ok (.iconst 2, 1) := by decide +kernel
theorem dL_value_22 : decode cL_value 22 = .ok (.ireturn, 1) := by decide +kernel
theorem dL_value_23 : decode cL_value 23 = .ok (.iconst 0, 1) := by decide +kernel
theorem dL_value_24 : decode cL_value 24 = .ok (.ireturn, 1) := by decide +kernel
theorem dL_sum_0 : decode cL_sum 0 = .ok (.aload 5, 2) := by decide +kernel
theorem dL_sum_2 : decode cL_sum 2 = .ok (.iconst 0, 1) := by decide +kernel
theorem dL_sum_3 : decode cL_sum 3 = .ok (.aload_n 0, 1) := by decide +kernel
theorem dL_sum_4 : decode cL_sum 4 = .ok (.iload_n 1, 1) := by decide +kernel
theorem dL_sum_5 : decode cL_sum 5 = .ok (.iload_n 2, 1) := by decide +kernel
theorem dL_sum_6 : decode cL_sum 6 = .ok (.iload_n 3, 1) := by decide +kernel
theorem dL_sum_7 : decode cL_sum 7 = .ok (.iload 4, 2) := by decide +kernel
theorem dL_sum_9 : decode cL_sum 9 = .ok (.invokevirtual 30, 3) := by decide +kernel
theorem dL_sum_12 : decode cL_sum 12 = .ok (.lastore, 1) := by decide +kernel
theorem dL_sum_13 : decode cL_sum 13 = .ok (.goto 7, 3) := by decide +kernel
theorem dL_sum_16 : decode cL_sum 16 = .ok (.astore 6, 2) := by decide +kernel
theorem dL_sum_18 : decode cL_sum 18 = .ok (.iconst 1, 1) := by decide +kernel
theorem dL_sum_19 : decode cL_sum 19 = .ok (.ireturn, 1) := by decide +kernel
theorem dL_sum_20 : decode cL_sum 20 = .ok (.iconst 0, 1) := by decide +kernel
theorem dL_sum_21 : decode cL_sum 21 = .ok (.ireturn, 1) := by decide +kernel
theorem dL_runs_0 : decode cL_runs 0 = .ok (.aload_n 3, 1) := by decide +kernel
theorem dL_runs_1 : decode cL_runs 1 = .ok (.iconst 0, 1) := by decide +kernel
theorem dL_runs_2 : decode cL_runs 2 = .ok (.aload_n 0, 1) := by decide +kernel
theorem dL_runs_3 : decode cL_runs 3 = .ok (.iload_n 1, 1) := by decide +kernel
theorem dL_runs_4 : decode cL_runs 4 = .ok (.iload_n 2, 1) := by decide +kernel
theorem dL_runs_5 : decode cL_runs 5 = .ok (.invokevirtual 34, 3) := by decide +kernel
theorem dL_runs_8 : decode cL_runs 8 = .ok (.i2l, 1) := by decide +kernel
theorem dL_runs_9 : decode cL_runs 9 = .ok (.lastore, 1) := by decide +kernel
theorem dL_runs_10 : decode cL_runs 10 = .ok (.goto 7, 3) := by decide +kernel
theorem dL_runs_13 : decode cL_runs 13 = .ok (.astore 4, 2) := by decide +kernel
theorem dL_runs_15 : decode cL_runs 15 = .ok (.iconst 1, 1) := by decide +kernel
theorem dL_runs_16 : decode cL_runs 16 = .ok (.ireturn, 1) := by decide +kernel
theorem dL_runs_17 : decode cL_runs 17 = .ok (.iconst 0, 1) := by decide +kernel
theorem dL_runs_18 : decode cL_runs 18 = .ok (.ireturn, 1) := by decide +kernel
theorem dL_run_0 : decode cL_run 0 = .ok (.aload 5, 2) := by decide +kernel
theorem dL_run_2 : decode cL_run 2 = .ok (.iconst 0, 1) := by decide +kernel
theorem dL_run_3 : decode cL_run 3 = .ok (.aload_n 0, 1) := by decide +kernel
theorem dL_run_4 : decode cL_run 4 = .ok (.iload_n 1, 1) := by decide +kernel
theorem dL_run_5 : decode cL_run 5 = .ok (.iload_n 2, 1) := by decide +kernel
theorem dL_run_6 : decode cL_run 6 = .ok (.iload_n 3, 1) := by decide +kernel
theorem dL_run_7 : decode cL_run 7 = .ok (.iload 4, 2) := by decide +kernel
theorem dL_run_9 : decode cL_run 9 = .ok (.invokevirtual 38, 3) := by decide +kernel
theorem dL_run_12 : decode cL_run 12 = .ok (.i2l, 1) := by decide +kernel
theorem dL_run_13 : decode cL_run 13 = .ok (.lastore, 1) := by decide +kernel
theorem dL_run_14 : decode cL_run 14 = .ok (.goto 11, 3) := by decide +kernel
theorem dL_run_17 : decode cL_run 17 = .ok (.astore 6, 2) := by decide +kernel
theorem dL_run_19 : decode cL_run 19 = .ok (.iconst 1, 1) := by decide +kernel
theorem dL_run_20 : decode cL_run 20 = .ok (.ireturn, 1) := by decide +kernel
theorem dL_run_21 : decode cL_run 21 = .ok (.astore 6, 2) := by decide +kernel
theorem dL_run_23 : decode cL_run 23 = .ok (.iconst 2, 1) := by decide +kernel
theorem dL_run_24 : decode cL_run 24 = .ok (.ireturn, 1) := by decide +kernel
theorem dL_run_25 : decode cL_run 25 = .ok (.iconst 0, 1) := by decide +kernel
theorem dL_run_26 : decode cL_run 26 = .ok (.ireturn, 1) := by decide +kernel
theorem dL_row_0 : decode cL_row 0 = .ok (.aload_n 3, 1) := by decide +kernel
theorem dL_row_1 : decode cL_row 1 = .ok (.iconst 0, 1) := by decide +kernel
theorem dL_row_2 : decode cL_row 2 = .ok (.aload_n 0, 1) := by decide +kernel
theorem dL_row_3 : decode cL_row 3 = .ok (.iload_n 1, 1) := by decide +kernel
theorem dL_row_4 : decode cL_row 4 = .ok (.iload_n 2, 1) := by decide +kernel
theorem dL_row_5 : decode cL_row 5 = .ok (.invokevirtual 44, 3) := by decide +kernel
theorem dL_row_8 : decode cL_row 8 = .ok (.i2l, 1) := by decide +kernel
theorem dL_row_9 : decode cL_row 9 = .ok (.lastore, 1) := by decide +kernel
theorem dL_row_10 : decode cL_row 10 = .ok (.goto 11, 3) := by decide +kernel
theorem dL_row_13 : decode cL_row 13 = .ok (.astore 4, 2) := by decide +kernel
theorem dL_row_15 : decode cL_row 15 = .ok (.iconst 1, 1) := by decide +kernel
theorem dL_row_16 : decode cL_row 16 = .ok (.ireturn, 1) := by decide +kernel
theorem dL_row_17 : decode cL_row 17 = .ok (.astore 4, 2) := by decide +kernel
theorem dL_row_19 : decode cL_row 19 = .ok (.iconst 2, 1) := by decide +kernel
theorem dL_row_20 : decode cL_row 20 = .ok (.ireturn, 1) := by decide +kernel
theorem dL_row_21 : decode cL_row 21 = .ok (.iconst 0, 1) := by decide +kernel
theorem dL_row_22 : decode cL_row 22 = .ok (.ireturn, 1) := by decide +kernel
theorem dL_changes_0 : decode cL_changes 0 = .ok (.aload_n 3, 1) := by decide +kernel
theorem dL_changes_1 : decode cL_changes 1 = .ok (.iconst 0, 1) := by decide +kernel
theorem dL_changes_2 : decode cL_changes 2 = .ok (.aload_n 0, 1) := by decide +kernel
theorem dL_changes_3 : decode cL_changes 3 = .ok (.iload_n 1, 1) := by decide +kernel
theorem dL_changes_4 : decode cL_changes 4 = .ok (.iload_n 2, 1) := by decide +kernel
theorem dL_changes_5 : decode cL_changes 5 = .ok (.invokevirtual 47, 3) := by decide +kernel
theorem dL_changes_8 : decode cL_changes 8 = .ok (.i2l, 1) := by decide +kernel
theorem dL_changes_9 : decode cL_changes 9 = .ok (.lastore, 1) := by decide +kernel
theorem dL_changes_10 : decode cL_changes 10 = .ok (.goto 7, 3) := by decide +kernel
theorem dL_changes_13 : decode cL_changes 13 = .ok (.astore 4, 2) := by decide +kernel
theorem dL_changes_15 : decode cL_changes 15 = .ok (.iconst 1, 1) := by decide +kernel
theorem dL_changes_16 : decode cL_changes 16 = .ok (.ireturn, 1) := by decide +kernel
theorem dL_changes_17 : decode cL_changes 17 = .ok (.iconst 0, 1) := by decide +kernel
theorem dL_changes_18 : decode cL_changes 18 = .ok (.ireturn, 1) := by decide +kernel
theorem dL_relation_0 : decode cL_relation 0 = .ok (.aload 5, 2) := by decide +kernel
theorem dL_relation_2 : decode cL_relation 2 = .ok (.iconst 0, 1) := by decide +kernel
theorem dL_relation_3 : decode cL_relation 3 = .ok (.aload_n 0, 1) := by decide +kernel
theorem dL_relation_4 : decode cL_relation 4 = .ok (.iload_n 1, 1) := by decide +kernel
theorem dL_relation_5 : decode cL_relation 5 = .ok (.iload_n 2, 1) := by decide +kernel
theorem dL_relation_6 : decode cL_relation 6 = .ok (.iload_n 3, 1) := by decide +kernel
theorem dL_relation_7 : decode cL_relation 7 = .ok (.iload 4, 2) := by decide +kernel
theorem dL_relation_9 : decode cL_relation 9 = .ok (.invokevirtual 50, 3) := by decide +kernel
theorem dL_relation_12 : decode cL_relation 12 = .ok (.i2l, 1) := by decide +kernel
theorem dL_relation_13 : decode cL_relation 13 = .ok (.lastore, 1) := by decide +kernel
theorem dL_relation_14 : decode cL_relation 14 = .ok (.goto 7, 3) := by decide +kernel
theorem dL_relation_17 : decode cL_relation 17 = .ok (.astore 6, 2) := by decide +kernel
theorem dL_relation_19 : decode cL_relation 19 = .ok (.iconst 1, 1) := by decide +kernel
theorem dL_relation_20 : decode cL_relation 20 = .ok (.ireturn, 1) := by decide +kernel
theorem dL_relation_21 : decode cL_relation 21 = .ok (.iconst 0, 1) := by decide +kernel
theorem dL_relation_22 : decode cL_relation 22 = .ok (.ireturn, 1) := by decide +kernel
theorem dL_join_0 : decode cL_join 0 = .ok (.aload 5, 2) := by decide +kernel
theorem dL_join_2 : decode cL_join 2 = .ok (.iconst 0, 1) := by decide +kernel
theorem dL_join_3 : decode cL_join 3 = .ok (.aload_n 0, 1) := by decide +kernel
theorem dL_join_4 : decode cL_join 4 = .ok (.iload_n 1, 1) := by decide +kernel
theorem dL_join_5 : decode cL_join 5 = .ok (.iload_n 2, 1) := by decide +kernel
theorem dL_join_6 : decode cL_join 6 = .ok (.iload_n 3, 1) := by decide +kernel
theorem dL_join_7 : decode cL_join 7 = .ok (.iload 4, 2) := by decide +kernel
theorem dL_join_9 : decode cL_join 9 = .ok (.invokevirtual 53, 3) := by decide +kernel
theorem dL_join_12 : decode cL_join 12 = .ok (.i2l, 1) := by decide +kernel
theorem dL_join_13 : decode cL_join 13 = .ok (.lastore, 1) := by decide +kernel
theorem dL_join_14 : decode cL_join 14 = .ok (.goto 7, 3) := by decide +kernel
theorem dL_join_17 : decode cL_join 17 = .ok (.astore 6, 2) := by decide +kernel
theorem dL_join_19 : decode cL_join 19 = .ok (.iconst 1, 1) := by decide +kernel
theorem dL_join_20 : decode cL_join 20 = .ok (.ireturn, 1) := by decide +kernel
theorem dL_join_21 : decode cL_join 21 = .ok (.iconst 0, 1) := by decide +kernel
theorem dL_join_22 : decode cL_join 22 = .ok (.ireturn, 1) := by decide +kernel
theorem dL_law_0 : decode cL_law 0 = .ok (.new 8, 3) := by decide +kernel
theorem dL_law_3 : decode cL_law 3 = .ok (.dup, 1) := by decide +kernel
theorem dL_law_4 : decode cL_law 4 = .ok (.invokespecial 56, 3) := by decide +kernel
theorem dL_law_7 : decode cL_law 7 = .ok (.astore_n 1, 1) := by decide +kernel
theorem dL_law_8 : decode cL_law 8 = .ok (.new 57, 3) := by decide +kernel
theorem dL_law_11 : decode cL_law 11 = .ok (.dup, 1) := by decide +kernel
theorem dL_law_12 : decode cL_law 12 = .ok (.invokespecial 59, 3) := by decide +kernel
theorem dL_law_15 : decode cL_law 15 = .ok (.astore_n 2, 1) := by decide +kernel
theorem dL_law_16 : decode cL_law 16 = .ok (.iconst 1, 1) := by decide +kernel
theorem dL_law_17 : decode cL_law 17 = .ok (.newarray .long, 2) := by decide +kernel
theorem dL_law_19 : decode cL_law 19 = .ok (.astore_n 3, 1) := by decide +kernel
theorem dL_law_20 : decode cL_law 20 = .ok (.iconst 0, 1) := by decide +kernel
theorem dL_law_21 : decode cL_law 21 = .ok (.istore 4, 2) := by decide +kernel
theorem dL_law_23 : decode cL_law 23 = .ok (.iload 4, 2) := by decide +kernel
theorem dL_law_25 : decode cL_law 25 = .ok (.aload_n 0, 1) := by decide +kernel
theorem dL_law_26 : decode cL_law 26 = .ok (.arraylength, 1) := by decide +kernel
theorem dL_law_27 : decode cL_law 27 = .ok (.bipush 6, 2) := by decide +kernel
theorem dL_law_29 : decode cL_law 29 = .ok (.isub, 1) := by decide +kernel
theorem dL_law_30 : decode cL_law 30 = .ok (.if_icmp .gt 1100, 3) := by decide +kernel
theorem dL_law_33 : decode cL_law 33 = .ok (.aload_n 0, 1) := by decide +kernel
theorem dL_law_34 : decode cL_law 34 = .ok (.iload 4, 2) := by decide +kernel
theorem dL_law_36 : decode cL_law 36 = .ok (.iaload, 1) := by decide +kernel
theorem dL_law_37 : decode cL_law 37 = .ok (.bipush 15, 2) := by decide +kernel
theorem dL_law_39 : decode cL_law 39 = .ok (.iand, 1) := by decide +kernel
theorem dL_law_40 : decode cL_law 40 = .ok (.tableswitch 1084 0 15 #[80, 124, 137, 241, 314, 358, 371, 451, 500, 591, 659, 751, 764, 832, 900, 992], 80) := by decide +kernel
theorem dL_law_120 : decode cL_law 120 = .ok (.aload_n 1, 1) := by decide +kernel
theorem dL_law_121 : decode cL_law 121 = .ok (.aload_n 3, 1) := by decide +kernel
theorem dL_law_122 : decode cL_law 122 = .ok (.invokestatic 60, 3) := by decide +kernel
theorem dL_law_125 : decode cL_law 125 = .ok (.istore 5, 2) := by decide +kernel
theorem dL_law_127 : decode cL_law 127 = .ok (.aload_n 2, 1) := by decide +kernel
theorem dL_law_128 : decode cL_law 128 = .ok (.invokevirtual 65, 3) := by decide +kernel
theorem dL_law_131 : decode cL_law 131 = .ok (.istore 6, 2) := by decide +kernel
theorem dL_law_133 : decode cL_law 133 = .ok (.aload_n 2, 1) := by decide +kernel
theorem dL_law_134 : decode cL_law 134 = .ok (.invokevirtual 66, 3) := by decide +kernel
theorem dL_law_137 : decode cL_law 137 = .ok (.iload 5, 2) := by decide +kernel
theorem dL_law_139 : decode cL_law 139 = .ok (.if_icmp .eq 5, 3) := by decide +kernel
theorem dL_law_142 : decode cL_law 142 = .ok (.iconst 0, 1) := by decide +kernel
theorem dL_law_143 : decode cL_law 143 = .ok (.ireturn, 1) := by decide +kernel
theorem dL_law_144 : decode cL_law 144 = .ok (.iload 5, 2) := by decide +kernel
theorem dL_law_146 : decode cL_law 146 = .ok (.ifCond .ne 15, 3) := by decide +kernel
theorem dL_law_149 : decode cL_law 149 = .ok (.aload_n 3, 1) := by decide +kernel
theorem dL_law_150 : decode cL_law 150 = .ok (.iconst 0, 1) := by decide +kernel
theorem dL_law_151 : decode cL_law 151 = .ok (.laload, 1) := by decide +kernel
theorem dL_law_152 : decode cL_law 152 = .ok (.iload 6, 2) := by decide +kernel
theorem dL_law_154 : decode cL_law 154 = .ok (.i2l, 1) := by decide +kernel
theorem dL_law_155 : decode cL_law 155 = .ok (.lcmp, 1) := by decide +kernel
theorem dL_law_156 : decode cL_law 156 = .ok (.ifCond .eq 5, 3) := by decide +kernel
theorem dL_law_159 : decode cL_law 159 = .ok (.iconst 0, 1) := by decide +kernel
theorem dL_law_160 : decode cL_law 160 = .ok (.ireturn, 1) := by decide +kernel
theorem dL_law_161 : decode cL_law 161 = .ok (.goto 963, 3) := by decide +kernel
theorem dL_law_164 : decode cL_law 164 = .ok (.aload_n 1, 1) := by decide +kernel
theorem dL_law_165 : decode cL_law 165 = .ok (.invokevirtual 69, 3) := by decide +kernel
theorem dL_law_168 : decode cL_law 168 = .ok (.aload_n 2, 1) := by decide +kernel
theorem dL_law_169 : decode cL_law 169 = .ok (.invokevirtual 72, 3) := by decide +kernel
theorem dL_law_172 : decode cL_law 172 = .ok (.if_icmp .eq 952, 3) := by decide +kernel
theorem dL_law_175 : decode cL_law 175 = .ok (.iconst 0, 1) := by decide +kernel
theorem dL_law_176 : decode cL_law 176 = .ok (.ireturn, 1) := by decide +kernel
theorem dL_law_177 : decode cL_law 177 = .ok (.aload_n 1, 1) := by decide +kernel
theorem dL_law_178 : decode cL_law 178 = .ok (.aload_n 0, 1) := by decide +kernel
theorem dL_law_179 : decode cL_law 179 = .ok (.iload 4, 2) := by decide +kernel
theorem dL_law_181 : decode cL_law 181 = .ok (.iconst 1, 1) := by decide +kernel
theorem dL_law_182 : decode cL_law 182 = .ok (.iadd, 1) := by decide +kernel
theorem dL_law_183 : decode cL_law 183 = .ok (.iaload, 1) := by decide +kernel
theorem dL_law_184 : decode cL_law 184 = .ok (.aload_n 0, 1) := by decide +kernel
theorem dL_law_185 : decode cL_law 185 = .ok (.iload 4, 2) := by decide +kernel
theorem dL_law_187 : decode cL_law 187 = .ok (.iconst 2, 1) := by decide +kernel
theorem dL_law_188 : decode cL_law 188 = .ok (.iadd, 1) := by decide +kernel
theorem dL_law_189 : decode cL_law 189 = .ok (.iaload, 1) := by decide +kernel
theorem dL_law_190 : decode cL_law 190 = .ok (.aload_n 0, 1) := by decide +kernel
theorem dL_law_191 : decode cL_law 191 = .ok (.iload 4, 2) := by decide +kernel
theorem dL_law_193 : decode cL_law 193 = .ok (.iconst 3, 1) := by decide +kernel
theorem dL_law_194 : decode cL_law 194 = .ok (.iadd, 1) := by decide +kernel
theorem dL_law_195 : decode cL_law 195 = .ok (.iaload, 1) := by decide +kernel
theorem dL_law_196 : decode cL_law 196 = .ok (.aload_n 0, 1) := by decide +kernel
theorem dL_law_197 : decode cL_law 197 = .ok (.iload 4, 2) := by decide +kernel
theorem dL_law_199 : decode cL_law 199 = .ok (.iconst 4, 1) := by decide +kernel
theorem dL_law_200 : decode cL_law 200 = .ok (.iadd, 1) := by decide +kernel
theorem dL_law_201 : decode cL_law 201 = .ok (.iaload, 1) := by decide +kernel
theorem dL_law_202 : decode cL_law 202 = .ok (.aload_n 0, 1) := by decide +kernel
theorem dL_law_203 : decode cL_law 203 = .ok (.iload 4, 2) := by decide +kernel
theorem dL_law_205 : decode cL_law 205 = .ok (.iconst 5, 1) := by decide +kernel
theorem dL_law_206 : decode cL_law 206 = .ok (.iadd, 1) := by decide +kernel
theorem dL_law_207 : decode cL_law 207 = .ok (.iaload, 1) := by decide +kernel
theorem dL_law_208 : decode cL_law 208 = .ok (.aload_n 3, 1) := by decide +kernel
theorem dL_law_209 : decode cL_law 209 = .ok (.invokestatic 73, 3) := by decide +kernel
theorem dL_law_212 : decode cL_law 212 = .ok (.istore 5, 2) := by decide +kernel
theorem dL_law_214 : decode cL_law 214 = .ok (.aload_n 2, 1) := by decide +kernel
theorem dL_law_215 : decode cL_law 215 = .ok (.aload_n 0, 1) := by decide +kernel
theorem dL_law_216 : decode cL_law 216 = .ok (.iload 4, 2) := by decide +kernel
theorem dL_law_218 : decode cL_law 218 = .ok (.iconst 1, 1) := by decide +kernel
theorem dL_law_219 : decode cL_law 219 = .ok (.iadd, 1) := by decide +kernel
theorem dL_law_220 : decode cL_law 220 = .ok (.iaload, 1) := by decide +kernel
theorem dL_law_221 : decode cL_law 221 = .ok (.aload_n 0, 1) := by decide +kernel
theorem dL_law_222 : decode cL_law 222 = .ok (.iload 4, 2) := by decide +kernel
theorem dL_law_224 : decode cL_law 224 = .ok (.iconst 2, 1) := by decide +kernel
theorem dL_law_225 : decode cL_law 225 = .ok (.iadd, 1) := by decide +kernel
theorem dL_law_226 : decode cL_law 226 = .ok (.iaload, 1) := by decide +kernel
theorem dL_law_227 : decode cL_law 227 = .ok (.aload_n 0, 1) := by decide +kernel
theorem dL_law_228 : decode cL_law 228 = .ok (.iload 4, 2) := by decide +kernel
theorem dL_law_230 : decode cL_law 230 = .ok (.iconst 3, 1) := by decide +kernel
theorem dL_law_231 : decode cL_law 231 = .ok (.iadd, 1) := by decide +kernel
theorem dL_law_232 : decode cL_law 232 = .ok (.iaload, 1) := by decide +kernel
theorem dL_law_233 : decode cL_law 233 = .ok (.aload_n 0, 1) := by decide +kernel
theorem dL_law_234 : decode cL_law 234 = .ok (.iload 4, 2) := by decide +kernel
theorem dL_law_236 : decode cL_law 236 = .ok (.iconst 4, 1) := by decide +kernel
theorem dL_law_237 : decode cL_law 237 = .ok (.iadd, 1) := by decide +kernel
theorem dL_law_238 : decode cL_law 238 = .ok (.iaload, 1) := by decide +kernel
theorem dL_law_239 : decode cL_law 239 = .ok (.aload_n 0, 1) := by decide +kernel
theorem dL_law_240 : decode cL_law 240 = .ok (.iload 4, 2) := by decide +kernel
theorem dL_law_242 : decode cL_law 242 = .ok (.iconst 5, 1) := by decide +kernel
theorem dL_law_243 : decode cL_law 243 = .ok (.iadd, 1) := by decide +kernel
theorem dL_law_244 : decode cL_law 244 = .ok (.iaload, 1) := by decide +kernel
theorem dL_law_245 : decode cL_law 245 = .ok (.invokevirtual 76, 3) := by decide +kernel
theorem dL_law_248 : decode cL_law 248 = .ok (.istore 6, 2) := by decide +kernel
theorem dL_law_250 : decode cL_law 250 = .ok (.aload_n 2, 1) := by decide +kernel
theorem dL_law_251 : decode cL_law 251 = .ok (.invokevirtual 66, 3) := by decide +kernel
theorem dL_law_254 : decode cL_law 254 = .ok (.iload 5, 2) := by decide +kernel
theorem dL_law_256 : decode cL_law 256 = .ok (.if_icmp .eq 5, 3) := by decide +kernel
theorem dL_law_259 : decode cL_law 259 = .ok (.iconst 0, 1) := by decide +kernel
theorem dL_law_260 : decode cL_law 260 = .ok (.ireturn, 1) := by decide +kernel
theorem dL_law_261 : decode cL_law 261 = .ok (.iload 5, 2) := by decide +kernel
theorem dL_law_263 : decode cL_law 263 = .ok (.ifCond .ne 15, 3) := by decide +kernel
theorem dL_law_266 : decode cL_law 266 = .ok (.aload_n 3, 1) := by decide +kernel
theorem dL_law_267 : decode cL_law 267 = .ok (.iconst 0, 1) := by decide +kernel
theorem dL_law_268 : decode cL_law 268 = .ok (.laload, 1) := by decide +kernel
theorem dL_law_269 : decode cL_law 269 = .ok (.iload 6, 2) := by decide +kernel
theorem dL_law_271 : decode cL_law 271 = .ok (.i2l, 1) := by decide +kernel
theorem dL_law_272 : decode cL_law 272 = .ok (.lcmp, 1) := by decide +kernel
theorem dL_law_273 : decode cL_law 273 = .ok (.ifCond .eq 5, 3) := by decide +kernel
theorem dL_law_276 : decode cL_law 276 = .ok (.iconst 0, 1) := by decide +kernel
theorem dL_law_277 : decode cL_law 277 = .ok (.ireturn, 1) := by decide +kernel
theorem dL_law_278 : decode cL_law 278 = .ok (.goto 846, 3) := by decide +kernel
theorem dL_law_281 : decode cL_law 281 = .ok (.aload_n 1, 1) := by decide +kernel
theorem dL_law_282 : decode cL_law 282 = .ok (.aload_n 0, 1) := by decide +kernel
theorem dL_law_283 : decode cL_law 283 = .ok (.iload 4, 2) := by decide +kernel
theorem dL_law_285 : decode cL_law 285 = .ok (.iconst 1, 1) := by decide +kernel
theorem dL_law_286 : decode cL_law 286 = .ok (.iadd, 1) := by decide +kernel
theorem dL_law_287 : decode cL_law 287 = .ok (.iaload, 1) := by decide +kernel
theorem dL_law_288 : decode cL_law 288 = .ok (.aload_n 0, 1) := by decide +kernel
theorem dL_law_289 : decode cL_law 289 = .ok (.iload 4, 2) := by decide +kernel
theorem dL_law_291 : decode cL_law 291 = .ok (.iconst 2, 1) := by decide +kernel
theorem dL_law_292 : decode cL_law 292 = .ok (.iadd, 1) := by decide +kernel
theorem dL_law_293 : decode cL_law 293 = .ok (.iaload, 1) := by decide +kernel
theorem dL_law_294 : decode cL_law 294 = .ok (.aload_n 0, 1) := by decide +kernel
theorem dL_law_295 : decode cL_law 295 = .ok (.iload 4, 2) := by decide +kernel
theorem dL_law_297 : decode cL_law 297 = .ok (.iconst 3, 1) := by decide +kernel
theorem dL_law_298 : decode cL_law 298 = .ok (.iadd, 1) := by decide +kernel
theorem dL_law_299 : decode cL_law 299 = .ok (.iaload, 1) := by decide +kernel
theorem dL_law_300 : decode cL_law 300 = .ok (.aload_n 0, 1) := by decide +kernel
theorem dL_law_301 : decode cL_law 301 = .ok (.iload 4, 2) := by decide +kernel
theorem dL_law_303 : decode cL_law 303 = .ok (.iconst 4, 1) := by decide +kernel
theorem dL_law_304 : decode cL_law 304 = .ok (.iadd, 1) := by decide +kernel
theorem dL_law_305 : decode cL_law 305 = .ok (.iaload, 1) := by decide +kernel
theorem dL_law_306 : decode cL_law 306 = .ok (.aload_n 0, 1) := by decide +kernel
theorem dL_law_307 : decode cL_law 307 = .ok (.iload 4, 2) := by decide +kernel
theorem dL_law_309 : decode cL_law 309 = .ok (.iconst 5, 1) := by decide +kernel
theorem dL_law_310 : decode cL_law 310 = .ok (.iadd, 1) := by decide +kernel
theorem dL_law_311 : decode cL_law 311 = .ok (.iaload, 1) := by decide +kernel
theorem dL_law_312 : decode cL_law 312 = .ok (.invokevirtual 77, 3) := by decide +kernel
theorem dL_law_315 : decode cL_law 315 = .ok (.aload_n 2, 1) := by decide +kernel
theorem dL_law_316 : decode cL_law 316 = .ok (.aload_n 0, 1) := by decide +kernel
theorem dL_law_317 : decode cL_law 317 = .ok (.iload 4, 2) := by decide +kernel
theorem dL_law_319 : decode cL_law 319 = .ok (.iconst 1, 1) := by decide +kernel
theorem dL_law_320 : decode cL_law 320 = .ok (.iadd, 1) := by decide +kernel
theorem dL_law_321 : decode cL_law 321 = .ok (.iaload, 1) := by decide +kernel
theorem dL_law_322 : decode cL_law 322 = .ok (.aload_n 0, 1) := by decide +kernel
theorem dL_law_323 : decode cL_law 323 = .ok (.iload 4, 2) := by decide +kernel
theorem dL_law_325 : decode cL_law 325 = .ok (.iconst 2, 1) := by decide +kernel
theorem dL_law_326 : decode cL_law 326 = .ok (.iadd, 1) := by decide +kernel
theorem dL_law_327 : decode cL_law 327 = .ok (.iaload, 1) := by decide +kernel
theorem dL_law_328 : decode cL_law 328 = .ok (.aload_n 0, 1) := by decide +kernel
theorem dL_law_329 : decode cL_law 329 = .ok (.iload 4, 2) := by decide +kernel
theorem dL_law_331 : decode cL_law 331 = .ok (.iconst 3, 1) := by decide +kernel
theorem dL_law_332 : decode cL_law 332 = .ok (.iadd, 1) := by decide +kernel
theorem dL_law_333 : decode cL_law 333 = .ok (.iaload, 1) := by decide +kernel
theorem dL_law_334 : decode cL_law 334 = .ok (.aload_n 0, 1) := by decide +kernel
theorem dL_law_335 : decode cL_law 335 = .ok (.iload 4, 2) := by decide +kernel
theorem dL_law_337 : decode cL_law 337 = .ok (.iconst 4, 1) := by decide +kernel
theorem dL_law_338 : decode cL_law 338 = .ok (.iadd, 1) := by decide +kernel
theorem dL_law_339 : decode cL_law 339 = .ok (.iaload, 1) := by decide +kernel
theorem dL_law_340 : decode cL_law 340 = .ok (.aload_n 0, 1) := by decide +kernel
theorem dL_law_341 : decode cL_law 341 = .ok (.iload 4, 2) := by decide +kernel
theorem dL_law_343 : decode cL_law 343 = .ok (.iconst 5, 1) := by decide +kernel
theorem dL_law_344 : decode cL_law 344 = .ok (.iadd, 1) := by decide +kernel
theorem dL_law_345 : decode cL_law 345 = .ok (.iaload, 1) := by decide +kernel
theorem dL_law_346 : decode cL_law 346 = .ok (.invokevirtual 81, 3) := by decide +kernel
theorem dL_law_349 : decode cL_law 349 = .ok (.if_icmp .eq 775, 3) := by decide +kernel
theorem dL_law_352 : decode cL_law 352 = .ok (.iconst 0, 1) := by decide +kernel
theorem dL_law_353 : decode cL_law 353 = .ok (.ireturn, 1) := by decide +kernel
theorem dL_law_354 : decode cL_law 354 = .ok (.aload_n 1, 1) := by decide +kernel
theorem dL_law_355 : decode cL_law 355 = .ok (.aload_n 3, 1) := by decide +kernel
theorem dL_law_356 : decode cL_law 356 = .ok (.invokestatic 82, 3) := by decide +kernel
theorem dL_law_359 : decode cL_law 359 = .ok (.istore 5, 2) := by decide +kernel
theorem dL_law_361 : decode cL_law 361 = .ok (.aload_n 2, 1) := by decide +kernel
theorem dL_law_362 : decode cL_law 362 = .ok (.invokevirtual 84, 3) := by decide +kernel
theorem dL_law_365 : decode cL_law 365 = .ok (.istore 6, 2) := by decide +kernel
theorem dL_law_367 : decode cL_law 367 = .ok (.aload_n 2, 1) := by decide +kernel
theorem dL_law_368 : decode cL_law 368 = .ok (.invokevirtual 66, 3) := by decide +kernel
theorem dL_law_371 : decode cL_law 371 = .ok (.iload 5, 2) := by decide +kernel
theorem dL_law_373 : decode cL_law 373 = .ok (.if_icmp .eq 5, 3) := by decide +kernel
theorem dL_law_376 : decode cL_law 376 = .ok (.iconst 0, 1) := by decide +kernel
theorem dL_law_377 : decode cL_law 377 = .ok (.ireturn, 1) := by decide +kernel
theorem dL_law_378 : decode cL_law 378 = .ok (.iload 5, 2) := by decide +kernel
theorem dL_law_380 : decode cL_law 380 = .ok (.ifCond .ne 15, 3) := by decide +kernel
theorem dL_law_383 : decode cL_law 383 = .ok (.aload_n 3, 1) := by decide +kernel
theorem dL_law_384 : decode cL_law 384 = .ok (.iconst 0, 1) := by decide +kernel
theorem dL_law_385 : decode cL_law 385 = .ok (.laload, 1) := by decide +kernel
theorem dL_law_386 : decode cL_law 386 = .ok (.iload 6, 2) := by decide +kernel
theorem dL_law_388 : decode cL_law 388 = .ok (.i2l, 1) := by decide +kernel
theorem dL_law_389 : decode cL_law 389 = .ok (.lcmp, 1) := by decide +kernel
theorem dL_law_390 : decode cL_law 390 = .ok (.ifCond .eq 5, 3) := by decide +kernel
theorem dL_law_393 : decode cL_law 393 = .ok (.iconst 0, 1) := by decide +kernel
theorem dL_law_394 : decode cL_law 394 = .ok (.ireturn, 1) := by decide +kernel
theorem dL_law_395 : decode cL_law 395 = .ok (.goto 729, 3) := by decide +kernel
theorem dL_law_398 : decode cL_law 398 = .ok (.aload_n 1, 1) := by decide +kernel
theorem dL_law_399 : decode cL_law 399 = .ok (.invokevirtual 85, 3) := by decide +kernel
theorem dL_law_402 : decode cL_law 402 = .ok (.aload_n 2, 1) := by decide +kernel
theorem dL_law_403 : decode cL_law 403 = .ok (.invokevirtual 88, 3) := by decide +kernel
theorem dL_law_406 : decode cL_law 406 = .ok (.if_icmp .eq 718, 3) := by decide +kernel
theorem dL_law_409 : decode cL_law 409 = .ok (.iconst 0, 1) := by decide +kernel
theorem dL_law_410 : decode cL_law 410 = .ok (.ireturn, 1) := by decide +kernel
theorem dL_law_411 : decode cL_law 411 = .ok (.aload_n 1, 1) := by decide +kernel
theorem dL_law_412 : decode cL_law 412 = .ok (.aload_n 0, 1) := by decide +kernel
theorem dL_law_413 : decode cL_law 413 = .ok (.iload 4, 2) := by decide +kernel
theorem dL_law_415 : decode cL_law 415 = .ok (.iconst 1, 1) := by decide +kernel
theorem dL_law_416 : decode cL_law 416 = .ok (.iadd, 1) := by decide +kernel
theorem dL_law_417 : decode cL_law 417 = .ok (.iaload, 1) := by decide +kernel
theorem dL_law_418 : decode cL_law 418 = .ok (.aload_n 0, 1) := by decide +kernel
theorem dL_law_419 : decode cL_law 419 = .ok (.iload 4, 2) := by decide +kernel
theorem dL_law_421 : decode cL_law 421 = .ok (.iconst 2, 1) := by decide +kernel
theorem dL_law_422 : decode cL_law 422 = .ok (.iadd, 1) := by decide +kernel
theorem dL_law_423 : decode cL_law 423 = .ok (.iaload, 1) := by decide +kernel
theorem dL_law_424 : decode cL_law 424 = .ok (.aload_n 0, 1) := by decide +kernel
theorem dL_law_425 : decode cL_law 425 = .ok (.iload 4, 2) := by decide +kernel
theorem dL_law_427 : decode cL_law 427 = .ok (.iconst 3, 1) := by decide +kernel
theorem dL_law_428 : decode cL_law 428 = .ok (.iadd, 1) := by decide +kernel
theorem dL_law_429 : decode cL_law 429 = .ok (.iaload, 1) := by decide +kernel
theorem dL_law_430 : decode cL_law 430 = .ok (.aload_n 3, 1) := by decide +kernel
theorem dL_law_431 : decode cL_law 431 = .ok (.invokestatic 89, 3) := by decide +kernel
theorem dL_law_434 : decode cL_law 434 = .ok (.istore 5, 2) := by decide +kernel
theorem dL_law_436 : decode cL_law 436 = .ok (.aload_n 2, 1) := by decide +kernel
theorem dL_law_437 : decode cL_law 437 = .ok (.aload_n 0, 1) := by decide +kernel
theorem dL_law_438 : decode cL_law 438 = .ok (.iload 4, 2) := by decide +kernel
theorem dL_law_440 : decode cL_law 440 = .ok (.iconst 1, 1) := by decide +kernel
theorem dL_law_441 : decode cL_law 441 = .ok (.iadd, 1) := by decide +kernel
theorem dL_law_442 : decode cL_law 442 = .ok (.iaload, 1) := by decide +kernel
theorem dL_law_443 : decode cL_law 443 = .ok (.aload_n 0, 1) := by decide +kernel
theorem dL_law_444 : decode cL_law 444 = .ok (.iload 4, 2) := by decide +kernel
theorem dL_law_446 : decode cL_law 446 = .ok (.iconst 2, 1) := by decide +kernel
theorem dL_law_447 : decode cL_law 447 = .ok (.iadd, 1) := by decide +kernel
theorem dL_law_448 : decode cL_law 448 = .ok (.iaload, 1) := by decide +kernel
theorem dL_law_449 : decode cL_law 449 = .ok (.aload_n 0, 1) := by decide +kernel
theorem dL_law_450 : decode cL_law 450 = .ok (.iload 4, 2) := by decide +kernel
theorem dL_law_452 : decode cL_law 452 = .ok (.iconst 3, 1) := by decide +kernel
theorem dL_law_453 : decode cL_law 453 = .ok (.iadd, 1) := by decide +kernel
theorem dL_law_454 : decode cL_law 454 = .ok (.iaload, 1) := by decide +kernel
theorem dL_law_455 : decode cL_law 455 = .ok (.invokevirtual 92, 3) := by decide +kernel
theorem dL_law_458 : decode cL_law 458 = .ok (.istore 6, 2) := by decide +kernel
theorem dL_law_460 : decode cL_law 460 = .ok (.aload_n 2, 1) := by decide +kernel
theorem dL_law_461 : decode cL_law 461 = .ok (.invokevirtual 66, 3) := by decide +kernel
theorem dL_law_464 : decode cL_law 464 = .ok (.iload 5, 2) := by decide +kernel
theorem dL_law_466 : decode cL_law 466 = .ok (.if_icmp .eq 5, 3) := by decide +kernel
theorem dL_law_469 : decode cL_law 469 = .ok (.iconst 0, 1) := by decide +kernel
theorem dL_law_470 : decode cL_law 470 = .ok (.ireturn, 1) := by decide +kernel
theorem dL_law_471 : decode cL_law 471 = .ok (.iload 5, 2) := by decide +kernel
theorem dL_law_473 : decode cL_law 473 = .ok (.ifCond .ne 15, 3) := by decide +kernel
theorem dL_law_476 : decode cL_law 476 = .ok (.aload_n 3, 1) := by decide +kernel
theorem dL_law_477 : decode cL_law 477 = .ok (.iconst 0, 1) := by decide +kernel
theorem dL_law_478 : decode cL_law 478 = .ok (.laload, 1) := by decide +kernel
theorem dL_law_479 : decode cL_law 479 = .ok (.iload 6, 2) := by decide +kernel
theorem dL_law_481 : decode cL_law 481 = .ok (.i2l, 1) := by decide +kernel
theorem dL_law_482 : decode cL_law 482 = .ok (.lcmp, 1) := by decide +kernel
theorem dL_law_483 : decode cL_law 483 = .ok (.ifCond .eq 5, 3) := by decide +kernel
theorem dL_law_486 : decode cL_law 486 = .ok (.iconst 0, 1) := by decide +kernel
theorem dL_law_487 : decode cL_law 487 = .ok (.ireturn, 1) := by decide +kernel
theorem dL_law_488 : decode cL_law 488 = .ok (.goto 636, 3) := by decide +kernel
theorem dL_law_491 : decode cL_law 491 = .ok (.aload_n 1, 1) := by decide +kernel
theorem dL_law_492 : decode cL_law 492 = .ok (.aload_n 0, 1) := by decide +kernel
theorem dL_law_493 : decode cL_law 493 = .ok (.iload 4, 2) := by decide +kernel
theorem dL_law_495 : decode cL_law 495 = .ok (.iconst 1, 1) := by decide +kernel
theorem dL_law_496 : decode cL_law 496 = .ok (.iadd, 1) := by decide +kernel
theorem dL_law_497 : decode cL_law 497 = .ok (.iaload, 1) := by decide +kernel
theorem dL_law_498 : decode cL_law 498 = .ok (.aload_n 0, 1) := by decide +kernel
theorem dL_law_499 : decode cL_law 499 = .ok (.iload 4, 2) := by decide +kernel
theorem dL_law_501 : decode cL_law 501 = .ok (.iconst 2, 1) := by decide +kernel
theorem dL_law_502 : decode cL_law 502 = .ok (.iadd, 1) := by decide +kernel
theorem dL_law_503 : decode cL_law 503 = .ok (.iaload, 1) := by decide +kernel
theorem dL_law_504 : decode cL_law 504 = .ok (.aload_n 0, 1) := by decide +kernel
theorem dL_law_505 : decode cL_law 505 = .ok (.iload 4, 2) := by decide +kernel
theorem dL_law_507 : decode cL_law 507 = .ok (.iconst 3, 1) := by decide +kernel
theorem dL_law_508 : decode cL_law 508 = .ok (.iadd, 1) := by decide +kernel
theorem dL_law_509 : decode cL_law 509 = .ok (.iaload, 1) := by decide +kernel
theorem dL_law_510 : decode cL_law 510 = .ok (.invokevirtual 93, 3) := by decide +kernel
theorem dL_law_513 : decode cL_law 513 = .ok (.aload_n 2, 1) := by decide +kernel
theorem dL_law_514 : decode cL_law 514 = .ok (.aload_n 0, 1) := by decide +kernel
theorem dL_law_515 : decode cL_law 515 = .ok (.iload 4, 2) := by decide +kernel
theorem dL_law_517 : decode cL_law 517 = .ok (.iconst 1, 1) := by decide +kernel
theorem dL_law_518 : decode cL_law 518 = .ok (.iadd, 1) := by decide +kernel
theorem dL_law_519 : decode cL_law 519 = .ok (.iaload, 1) := by decide +kernel
theorem dL_law_520 : decode cL_law 520 = .ok (.aload_n 0, 1) := by decide +kernel
theorem dL_law_521 : decode cL_law 521 = .ok (.iload 4, 2) := by decide +kernel
theorem dL_law_523 : decode cL_law 523 = .ok (.iconst 2, 1) := by decide +kernel
theorem dL_law_524 : decode cL_law 524 = .ok (.iadd, 1) := by decide +kernel
theorem dL_law_525 : decode cL_law 525 = .ok (.iaload, 1) := by decide +kernel
theorem dL_law_526 : decode cL_law 526 = .ok (.aload_n 0, 1) := by decide +kernel
theorem dL_law_527 : decode cL_law 527 = .ok (.iload 4, 2) := by decide +kernel
theorem dL_law_529 : decode cL_law 529 = .ok (.iconst 3, 1) := by decide +kernel
theorem dL_law_530 : decode cL_law 530 = .ok (.iadd, 1) := by decide +kernel
theorem dL_law_531 : decode cL_law 531 = .ok (.iaload, 1) := by decide +kernel
theorem dL_law_532 : decode cL_law 532 = .ok (.invokevirtual 97, 3) := by decide +kernel
theorem dL_law_535 : decode cL_law 535 = .ok (.if_icmp .eq 589, 3) := by decide +kernel
theorem dL_law_538 : decode cL_law 538 = .ok (.iconst 0, 1) := by decide +kernel
theorem dL_law_539 : decode cL_law 539 = .ok (.ireturn, 1) := by decide +kernel
theorem dL_law_540 : decode cL_law 540 = .ok (.aload_n 1, 1) := by decide +kernel
theorem dL_law_541 : decode cL_law 541 = .ok (.aload_n 0, 1) := by decide +kernel
theorem dL_law_542 : decode cL_law 542 = .ok (.iload 4, 2) := by decide +kernel
theorem dL_law_544 : decode cL_law 544 = .ok (.iconst 1, 1) := by decide +kernel
theorem dL_law_545 : decode cL_law 545 = .ok (.iadd, 1) := by decide +kernel
theorem dL_law_546 : decode cL_law 546 = .ok (.iaload, 1) := by decide +kernel
theorem dL_law_547 : decode cL_law 547 = .ok (.aload_n 0, 1) := by decide +kernel
theorem dL_law_548 : decode cL_law 548 = .ok (.iload 4, 2) := by decide +kernel
theorem dL_law_550 : decode cL_law 550 = .ok (.iconst 2, 1) := by decide +kernel
theorem dL_law_551 : decode cL_law 551 = .ok (.iadd, 1) := by decide +kernel
theorem dL_law_552 : decode cL_law 552 = .ok (.iaload, 1) := by decide +kernel
theorem dL_law_553 : decode cL_law 553 = .ok (.aload_n 0, 1) := by decide +kernel
theorem dL_law_554 : decode cL_law 554 = .ok (.iload 4, 2) := by decide +kernel
theorem dL_law_556 : decode cL_law 556 = .ok (.iconst 3, 1) := by decide +kernel
theorem dL_law_557 : decode cL_law 557 = .ok (.iadd, 1) := by decide +kernel
theorem dL_law_558 : decode cL_law 558 = .ok (.iaload, 1) := by decide +kernel
theorem dL_law_559 : decode cL_law 559 = .ok (.aload_n 0, 1) := by decide +kernel
theorem dL_law_560 : decode cL_law 560 = .ok (.iload 4, 2) := by decide +kernel
theorem dL_law_562 : decode cL_law 562 = .ok (.iconst 4, 1) := by decide +kernel
theorem dL_law_563 : decode cL_law 563 = .ok (.iadd, 1) := by decide +kernel
theorem dL_law_564 : decode cL_law 564 = .ok (.iaload, 1) := by decide +kernel
theorem dL_law_565 : decode cL_law 565 = .ok (.aload_n 3, 1) := by decide +kernel
theorem dL_law_566 : decode cL_law 566 = .ok (.invokestatic 98, 3) := by decide +kernel
theorem dL_law_569 : decode cL_law 569 = .ok (.istore 5, 2) := by decide +kernel
theorem dL_law_571 : decode cL_law 571 = .ok (.aload_n 2, 1) := by decide +kernel
theorem dL_law_572 : decode cL_law 572 = .ok (.aload_n 0, 1) := by decide +kernel
theorem dL_law_573 : decode cL_law 573 = .ok (.iload 4, 2) := by decide +kernel
theorem dL_law_575 : decode cL_law 575 = .ok (.iconst 1, 1) := by decide +kernel
theorem dL_law_576 : decode cL_law 576 = .ok (.iadd, 1) := by decide +kernel
theorem dL_law_577 : decode cL_law 577 = .ok (.iaload, 1) := by decide +kernel
theorem dL_law_578 : decode cL_law 578 = .ok (.aload_n 0, 1) := by decide +kernel
theorem dL_law_579 : decode cL_law 579 = .ok (.iload 4, 2) := by decide +kernel
theorem dL_law_581 : decode cL_law 581 = .ok (.iconst 2, 1) := by decide +kernel
theorem dL_law_582 : decode cL_law 582 = .ok (.iadd, 1) := by decide +kernel
theorem dL_law_583 : decode cL_law 583 = .ok (.iaload, 1) := by decide +kernel
theorem dL_law_584 : decode cL_law 584 = .ok (.aload_n 0, 1) := by decide +kernel
theorem dL_law_585 : decode cL_law 585 = .ok (.iload 4, 2) := by decide +kernel
theorem dL_law_587 : decode cL_law 587 = .ok (.iconst 3, 1) := by decide +kernel
theorem dL_law_588 : decode cL_law 588 = .ok (.iadd, 1) := by decide +kernel
theorem dL_law_589 : decode cL_law 589 = .ok (.iaload, 1) := by decide +kernel
theorem dL_law_590 : decode cL_law 590 = .ok (.aload_n 0, 1) := by decide +kernel
theorem dL_law_591 : decode cL_law 591 = .ok (.iload 4, 2) := by decide +kernel
theorem dL_law_593 : decode cL_law 593 = .ok (.iconst 4, 1) := by decide +kernel
theorem dL_law_594 : decode cL_law 594 = .ok (.iadd, 1) := by decide +kernel
theorem dL_law_595 : decode cL_law 595 = .ok (.iaload, 1) := by decide +kernel
theorem dL_law_596 : decode cL_law 596 = .ok (.invokevirtual 101, 3) := by decide +kernel
theorem dL_law_599 : decode cL_law 599 = .ok (.lstore 6, 2) := by decide +kernel
theorem dL_law_601 : decode cL_law 601 = .ok (.aload_n 2, 1) := by decide +kernel
theorem dL_law_602 : decode cL_law 602 = .ok (.invokevirtual 66, 3) := by decide +kernel
theorem dL_law_605 : decode cL_law 605 = .ok (.iload 5, 2) := by decide +kernel
theorem dL_law_607 : decode cL_law 607 = .ok (.if_icmp .eq 5, 3) := by decide +kernel
theorem dL_law_610 : decode cL_law 610 = .ok (.iconst 0, 1) := by decide +kernel
theorem dL_law_611 : decode cL_law 611 = .ok (.ireturn, 1) := by decide +kernel
theorem dL_law_612 : decode cL_law 612 = .ok (.iload 5, 2) := by decide +kernel
theorem dL_law_614 : decode cL_law 614 = .ok (.ifCond .ne 14, 3) := by decide +kernel
theorem dL_law_617 : decode cL_law 617 = .ok (.aload_n 3, 1) := by decide +kernel
theorem dL_law_618 : decode cL_law 618 = .ok (.iconst 0, 1) := by decide +kernel
theorem dL_law_619 : decode cL_law 619 = .ok (.laload, 1) := by decide +kernel
theorem dL_law_620 : decode cL_law 620 = .ok (.lload 6, 2) := by decide +kernel
theorem dL_law_622 : decode cL_law 622 = .ok (.lcmp, 1) := by decide +kernel
theorem dL_law_623 : decode cL_law 623 = .ok (.ifCond .eq 5, 3) := by decide +kernel
theorem dL_law_626 : decode cL_law 626 = .ok (.iconst 0, 1) := by decide +kernel
theorem dL_law_627 : decode cL_law 627 = .ok (.ireturn, 1) := by decide +kernel
theorem dL_law_628 : decode cL_law 628 = .ok (.goto 496, 3) := by decide +kernel
theorem dL_law_631 : decode cL_law 631 = .ok (.aload_n 1, 1) := by decide +kernel
theorem dL_law_632 : decode cL_law 632 = .ok (.aload_n 0, 1) := by decide +kernel
theorem dL_law_633 : decode cL_law 633 = .ok (.iload 4, 2) := by decide +kernel
theorem dL_law_635 : decode cL_law 635 = .ok (.iconst 1, 1) := by decide +kernel
theorem dL_law_636 : decode cL_law 636 = .ok (.iadd, 1) := by decide +kernel
theorem dL_law_637 : decode cL_law 637 = .ok (.iaload, 1) := by decide +kernel
theorem dL_law_638 : decode cL_law 638 = .ok (.aload_n 0, 1) := by decide +kernel
theorem dL_law_639 : decode cL_law 639 = .ok (.iload 4, 2) := by decide +kernel
theorem dL_law_641 : decode cL_law 641 = .ok (.iconst 2, 1) := by decide +kernel
theorem dL_law_642 : decode cL_law 642 = .ok (.iadd, 1) := by decide +kernel
theorem dL_law_643 : decode cL_law 643 = .ok (.iaload, 1) := by decide +kernel
theorem dL_law_644 : decode cL_law 644 = .ok (.aload_n 3, 1) := by decide +kernel
theorem dL_law_645 : decode cL_law 645 = .ok (.invokestatic 102, 3) := by decide +kernel
theorem dL_law_648 : decode cL_law 648 = .ok (.istore 5, 2) := by decide +kernel
theorem dL_law_650 : decode cL_law 650 = .ok (.aload_n 2, 1) := by decide +kernel
theorem dL_law_651 : decode cL_law 651 = .ok (.aload_n 0, 1) := by decide +kernel
theorem dL_law_652 : decode cL_law 652 = .ok (.iload 4, 2) := by decide +kernel
theorem dL_law_654 : decode cL_law 654 = .ok (.iconst 1, 1) := by decide +kernel
theorem dL_law_655 : decode cL_law 655 = .ok (.iadd, 1) := by decide +kernel
theorem dL_law_656 : decode cL_law 656 = .ok (.iaload, 1) := by decide +kernel
theorem dL_law_657 : decode cL_law 657 = .ok (.aload_n 0, 1) := by decide +kernel
theorem dL_law_658 : decode cL_law 658 = .ok (.iload 4, 2) := by decide +kernel
theorem dL_law_660 : decode cL_law 660 = .ok (.iconst 2, 1) := by decide +kernel
theorem dL_law_661 : decode cL_law 661 = .ok (.iadd, 1) := by decide +kernel
theorem dL_law_662 : decode cL_law 662 = .ok (.iaload, 1) := by decide +kernel
theorem dL_law_663 : decode cL_law 663 = .ok (.invokevirtual 105, 3) := by decide +kernel
theorem dL_law_666 : decode cL_law 666 = .ok (.istore 6, 2) := by decide +kernel
theorem dL_law_668 : decode cL_law 668 = .ok (.aload_n 2, 1) := by decide +kernel
theorem dL_law_669 : decode cL_law 669 = .ok (.invokevirtual 66, 3) := by decide +kernel
theorem dL_law_672 : decode cL_law 672 = .ok (.iload 5, 2) := by decide +kernel
theorem dL_law_674 : decode cL_law 674 = .ok (.if_icmp .eq 5, 3) := by decide +kernel
theorem dL_law_677 : decode cL_law 677 = .ok (.iconst 0, 1) := by decide +kernel
theorem dL_law_678 : decode cL_law 678 = .ok (.ireturn, 1) := by decide +kernel
theorem dL_law_679 : decode cL_law 679 = .ok (.iload 5, 2) := by decide +kernel
theorem dL_law_681 : decode cL_law 681 = .ok (.ifCond .ne 15, 3) := by decide +kernel
theorem dL_law_684 : decode cL_law 684 = .ok (.aload_n 3, 1) := by decide +kernel
theorem dL_law_685 : decode cL_law 685 = .ok (.iconst 0, 1) := by decide +kernel
theorem dL_law_686 : decode cL_law 686 = .ok (.laload, 1) := by decide +kernel
theorem dL_law_687 : decode cL_law 687 = .ok (.iload 6, 2) := by decide +kernel
theorem dL_law_689 : decode cL_law 689 = .ok (.i2l, 1) := by decide +kernel
theorem dL_law_690 : decode cL_law 690 = .ok (.lcmp, 1) := by decide +kernel
theorem dL_law_691 : decode cL_law 691 = .ok (.ifCond .eq 5, 3) := by decide +kernel
theorem dL_law_694 : decode cL_law 694 = .ok (.iconst 0, 1) := by decide +kernel
theorem dL_law_695 : decode cL_law 695 = .ok (.ireturn, 1) := by decide +kernel
theorem dL_law_696 : decode cL_law 696 = .ok (.goto 428, 3) := by decide +kernel
theorem dL_law_699 : decode cL_law 699 = .ok (.aload_n 1, 1) := by decide +kernel
theorem dL_law_700 : decode cL_law 700 = .ok (.aload_n 0, 1) := by decide +kernel
theorem dL_law_701 : decode cL_law 701 = .ok (.iload 4, 2) := by decide +kernel
theorem dL_law_703 : decode cL_law 703 = .ok (.iconst 1, 1) := by decide +kernel
theorem dL_law_704 : decode cL_law 704 = .ok (.iadd, 1) := by decide +kernel
theorem dL_law_705 : decode cL_law 705 = .ok (.iaload, 1) := by decide +kernel
theorem dL_law_706 : decode cL_law 706 = .ok (.aload_n 0, 1) := by decide +kernel
theorem dL_law_707 : decode cL_law 707 = .ok (.iload 4, 2) := by decide +kernel
theorem dL_law_709 : decode cL_law 709 = .ok (.iconst 2, 1) := by decide +kernel
theorem dL_law_710 : decode cL_law 710 = .ok (.iadd, 1) := by decide +kernel
theorem dL_law_711 : decode cL_law 711 = .ok (.iaload, 1) := by decide +kernel
theorem dL_law_712 : decode cL_law 712 = .ok (.aload_n 0, 1) := by decide +kernel
theorem dL_law_713 : decode cL_law 713 = .ok (.iload 4, 2) := by decide +kernel
theorem dL_law_715 : decode cL_law 715 = .ok (.iconst 3, 1) := by decide +kernel
theorem dL_law_716 : decode cL_law 716 = .ok (.iadd, 1) := by decide +kernel
theorem dL_law_717 : decode cL_law 717 = .ok (.iaload, 1) := by decide +kernel
theorem dL_law_718 : decode cL_law 718 = .ok (.aload_n 0, 1) := by decide +kernel
theorem dL_law_719 : decode cL_law 719 = .ok (.iload 4, 2) := by decide +kernel
theorem dL_law_721 : decode cL_law 721 = .ok (.iconst 4, 1) := by decide +kernel
theorem dL_law_722 : decode cL_law 722 = .ok (.iadd, 1) := by decide +kernel
theorem dL_law_723 : decode cL_law 723 = .ok (.iaload, 1) := by decide +kernel
theorem dL_law_724 : decode cL_law 724 = .ok (.aload_n 3, 1) := by decide +kernel
theorem dL_law_725 : decode cL_law 725 = .ok (.invokestatic 106, 3) := by decide +kernel
theorem dL_law_728 : decode cL_law 728 = .ok (.istore 5, 2) := by decide +kernel
theorem dL_law_730 : decode cL_law 730 = .ok (.aload_n 2, 1) := by decide +kernel
theorem dL_law_731 : decode cL_law 731 = .ok (.aload_n 0, 1) := by decide +kernel
theorem dL_law_732 : decode cL_law 732 = .ok (.iload 4, 2) := by decide +kernel
theorem dL_law_734 : decode cL_law 734 = .ok (.iconst 1, 1) := by decide +kernel
theorem dL_law_735 : decode cL_law 735 = .ok (.iadd, 1) := by decide +kernel
theorem dL_law_736 : decode cL_law 736 = .ok (.iaload, 1) := by decide +kernel
theorem dL_law_737 : decode cL_law 737 = .ok (.aload_n 0, 1) := by decide +kernel
theorem dL_law_738 : decode cL_law 738 = .ok (.iload 4, 2) := by decide +kernel
theorem dL_law_740 : decode cL_law 740 = .ok (.iconst 2, 1) := by decide +kernel
theorem dL_law_741 : decode cL_law 741 = .ok (.iadd, 1) := by decide +kernel
theorem dL_law_742 : decode cL_law 742 = .ok (.iaload, 1) := by decide +kernel
theorem dL_law_743 : decode cL_law 743 = .ok (.aload_n 0, 1) := by decide +kernel
theorem dL_law_744 : decode cL_law 744 = .ok (.iload 4, 2) := by decide +kernel
theorem dL_law_746 : decode cL_law 746 = .ok (.iconst 3, 1) := by decide +kernel
theorem dL_law_747 : decode cL_law 747 = .ok (.iadd, 1) := by decide +kernel
theorem dL_law_748 : decode cL_law 748 = .ok (.iaload, 1) := by decide +kernel
theorem dL_law_749 : decode cL_law 749 = .ok (.aload_n 0, 1) := by decide +kernel
theorem dL_law_750 : decode cL_law 750 = .ok (.iload 4, 2) := by decide +kernel
theorem dL_law_752 : decode cL_law 752 = .ok (.iconst 4, 1) := by decide +kernel
theorem dL_law_753 : decode cL_law 753 = .ok (.iadd, 1) := by decide +kernel
theorem dL_law_754 : decode cL_law 754 = .ok (.iaload, 1) := by decide +kernel
theorem dL_law_755 : decode cL_law 755 = .ok (.invokevirtual 108, 3) := by decide +kernel
theorem dL_law_758 : decode cL_law 758 = .ok (.istore 6, 2) := by decide +kernel
theorem dL_law_760 : decode cL_law 760 = .ok (.aload_n 2, 1) := by decide +kernel
theorem dL_law_761 : decode cL_law 761 = .ok (.invokevirtual 66, 3) := by decide +kernel
theorem dL_law_764 : decode cL_law 764 = .ok (.iload 5, 2) := by decide +kernel
theorem dL_law_766 : decode cL_law 766 = .ok (.if_icmp .eq 5, 3) := by decide +kernel
theorem dL_law_769 : decode cL_law 769 = .ok (.iconst 0, 1) := by decide +kernel
theorem dL_law_770 : decode cL_law 770 = .ok (.ireturn, 1) := by decide +kernel
theorem dL_law_771 : decode cL_law 771 = .ok (.iload 5, 2) := by decide +kernel
theorem dL_law_773 : decode cL_law 773 = .ok (.ifCond .ne 15, 3) := by decide +kernel
theorem dL_law_776 : decode cL_law 776 = .ok (.aload_n 3, 1) := by decide +kernel
theorem dL_law_777 : decode cL_law 777 = .ok (.iconst 0, 1) := by decide +kernel
theorem dL_law_778 : decode cL_law 778 = .ok (.laload, 1) := by decide +kernel
theorem dL_law_779 : decode cL_law 779 = .ok (.iload 6, 2) := by decide +kernel
theorem dL_law_781 : decode cL_law 781 = .ok (.i2l, 1) := by decide +kernel
theorem dL_law_782 : decode cL_law 782 = .ok (.lcmp, 1) := by decide +kernel
theorem dL_law_783 : decode cL_law 783 = .ok (.ifCond .eq 5, 3) := by decide +kernel
theorem dL_law_786 : decode cL_law 786 = .ok (.iconst 0, 1) := by decide +kernel
theorem dL_law_787 : decode cL_law 787 = .ok (.ireturn, 1) := by decide +kernel
theorem dL_law_788 : decode cL_law 788 = .ok (.goto 336, 3) := by decide +kernel
theorem dL_law_791 : decode cL_law 791 = .ok (.aload_n 1, 1) := by decide +kernel
theorem dL_law_792 : decode cL_law 792 = .ok (.invokevirtual 109, 3) := by decide +kernel
theorem dL_law_795 : decode cL_law 795 = .ok (.aload_n 2, 1) := by decide +kernel
theorem dL_law_796 : decode cL_law 796 = .ok (.invokevirtual 112, 3) := by decide +kernel
theorem dL_law_799 : decode cL_law 799 = .ok (.if_icmp .eq 325, 3) := by decide +kernel
theorem dL_law_802 : decode cL_law 802 = .ok (.iconst 0, 1) := by decide +kernel
theorem dL_law_803 : decode cL_law 803 = .ok (.ireturn, 1) := by decide +kernel
theorem dL_law_804 : decode cL_law 804 = .ok (.aload_n 1, 1) := by decide +kernel
theorem dL_law_805 : decode cL_law 805 = .ok (.aload_n 0, 1) := by decide +kernel
theorem dL_law_806 : decode cL_law 806 = .ok (.iload 4, 2) := by decide +kernel
theorem dL_law_808 : decode cL_law 808 = .ok (.iconst 1, 1) := by decide +kernel
theorem dL_law_809 : decode cL_law 809 = .ok (.iadd, 1) := by decide +kernel
theorem dL_law_810 : decode cL_law 810 = .ok (.iaload, 1) := by decide +kernel
theorem dL_law_811 : decode cL_law 811 = .ok (.aload_n 0, 1) := by decide +kernel
theorem dL_law_812 : decode cL_law 812 = .ok (.iload 4, 2) := by decide +kernel
theorem dL_law_814 : decode cL_law 814 = .ok (.iconst 2, 1) := by decide +kernel
theorem dL_law_815 : decode cL_law 815 = .ok (.iadd, 1) := by decide +kernel
theorem dL_law_816 : decode cL_law 816 = .ok (.iaload, 1) := by decide +kernel
theorem dL_law_817 : decode cL_law 817 = .ok (.aload_n 3, 1) := by decide +kernel
theorem dL_law_818 : decode cL_law 818 = .ok (.invokestatic 113, 3) := by decide +kernel
theorem dL_law_821 : decode cL_law 821 = .ok (.istore 5, 2) := by decide +kernel
theorem dL_law_823 : decode cL_law 823 = .ok (.aload_n 2, 1) := by decide +kernel
theorem dL_law_824 : decode cL_law 824 = .ok (.aload_n 0, 1) := by decide +kernel
theorem dL_law_825 : decode cL_law 825 = .ok (.iload 4, 2) := by decide +kernel
theorem dL_law_827 : decode cL_law 827 = .ok (.iconst 1, 1) := by decide +kernel
theorem dL_law_828 : decode cL_law 828 = .ok (.iadd, 1) := by decide +kernel
theorem dL_law_829 : decode cL_law 829 = .ok (.iaload, 1) := by decide +kernel
theorem dL_law_830 : decode cL_law 830 = .ok (.aload_n 0, 1) := by decide +kernel
theorem dL_law_831 : decode cL_law 831 = .ok (.iload 4, 2) := by decide +kernel
theorem dL_law_833 : decode cL_law 833 = .ok (.iconst 2, 1) := by decide +kernel
theorem dL_law_834 : decode cL_law 834 = .ok (.iadd, 1) := by decide +kernel
theorem dL_law_835 : decode cL_law 835 = .ok (.iaload, 1) := by decide +kernel
theorem dL_law_836 : decode cL_law 836 = .ok (.invokevirtual 115, 3) := by decide +kernel
theorem dL_law_839 : decode cL_law 839 = .ok (.istore 6, 2) := by decide +kernel
theorem dL_law_841 : decode cL_law 841 = .ok (.aload_n 2, 1) := by decide +kernel
theorem dL_law_842 : decode cL_law 842 = .ok (.invokevirtual 66, 3) := by decide +kernel
theorem dL_law_845 : decode cL_law 845 = .ok (.iload 5, 2) := by decide +kernel
theorem dL_law_847 : decode cL_law 847 = .ok (.if_icmp .eq 5, 3) := by decide +kernel
theorem dL_law_850 : decode cL_law 850 = .ok (.iconst 0, 1) := by decide +kernel
theorem dL_law_851 : decode cL_law 851 = .ok (.ireturn, 1) := by decide +kernel
theorem dL_law_852 : decode cL_law 852 = .ok (.iload 5, 2) := by decide +kernel
theorem dL_law_854 : decode cL_law 854 = .ok (.ifCond .ne 15, 3) := by decide +kernel
theorem dL_law_857 : decode cL_law 857 = .ok (.aload_n 3, 1) := by decide +kernel
theorem dL_law_858 : decode cL_law 858 = .ok (.iconst 0, 1) := by decide +kernel
theorem dL_law_859 : decode cL_law 859 = .ok (.laload, 1) := by decide +kernel
theorem dL_law_860 : decode cL_law 860 = .ok (.iload 6, 2) := by decide +kernel
theorem dL_law_862 : decode cL_law 862 = .ok (.i2l, 1) := by decide +kernel
theorem dL_law_863 : decode cL_law 863 = .ok (.lcmp, 1) := by decide +kernel
theorem dL_law_864 : decode cL_law 864 = .ok (.ifCond .eq 5, 3) := by decide +kernel
theorem dL_law_867 : decode cL_law 867 = .ok (.iconst 0, 1) := by decide +kernel
theorem dL_law_868 : decode cL_law 868 = .ok (.ireturn, 1) := by decide +kernel
theorem dL_law_869 : decode cL_law 869 = .ok (.goto 255, 3) := by decide +kernel
theorem dL_law_872 : decode cL_law 872 = .ok (.aload_n 1, 1) := by decide +kernel
theorem dL_law_873 : decode cL_law 873 = .ok (.aload_n 0, 1) := by decide +kernel
theorem dL_law_874 : decode cL_law 874 = .ok (.iload 4, 2) := by decide +kernel
theorem dL_law_876 : decode cL_law 876 = .ok (.iconst 1, 1) := by decide +kernel
theorem dL_law_877 : decode cL_law 877 = .ok (.iadd, 1) := by decide +kernel
theorem dL_law_878 : decode cL_law 878 = .ok (.iaload, 1) := by decide +kernel
theorem dL_law_879 : decode cL_law 879 = .ok (.aload_n 0, 1) := by decide +kernel
theorem dL_law_880 : decode cL_law 880 = .ok (.iload 4, 2) := by decide +kernel
theorem dL_law_882 : decode cL_law 882 = .ok (.iconst 2, 1) := by decide +kernel
theorem dL_law_883 : decode cL_law 883 = .ok (.iadd, 1) := by decide +kernel
theorem dL_law_884 : decode cL_law 884 = .ok (.iaload, 1) := by decide +kernel
theorem dL_law_885 : decode cL_law 885 = .ok (.aload_n 3, 1) := by decide +kernel
theorem dL_law_886 : decode cL_law 886 = .ok (.invokestatic 116, 3) := by decide +kernel
theorem dL_law_889 : decode cL_law 889 = .ok (.istore 5, 2) := by decide +kernel
theorem dL_law_891 : decode cL_law 891 = .ok (.aload_n 2, 1) := by decide +kernel
theorem dL_law_892 : decode cL_law 892 = .ok (.aload_n 0, 1) := by decide +kernel
theorem dL_law_893 : decode cL_law 893 = .ok (.iload 4, 2) := by decide +kernel
theorem dL_law_895 : decode cL_law 895 = .ok (.iconst 1, 1) := by decide +kernel
theorem dL_law_896 : decode cL_law 896 = .ok (.iadd, 1) := by decide +kernel
theorem dL_law_897 : decode cL_law 897 = .ok (.iaload, 1) := by decide +kernel
theorem dL_law_898 : decode cL_law 898 = .ok (.aload_n 0, 1) := by decide +kernel
theorem dL_law_899 : decode cL_law 899 = .ok (.iload 4, 2) := by decide +kernel
theorem dL_law_901 : decode cL_law 901 = .ok (.iconst 2, 1) := by decide +kernel
theorem dL_law_902 : decode cL_law 902 = .ok (.iadd, 1) := by decide +kernel
theorem dL_law_903 : decode cL_law 903 = .ok (.iaload, 1) := by decide +kernel
theorem dL_law_904 : decode cL_law 904 = .ok (.invokevirtual 118, 3) := by decide +kernel
theorem dL_law_907 : decode cL_law 907 = .ok (.istore 6, 2) := by decide +kernel
theorem dL_law_909 : decode cL_law 909 = .ok (.aload_n 2, 1) := by decide +kernel
theorem dL_law_910 : decode cL_law 910 = .ok (.invokevirtual 66, 3) := by decide +kernel
theorem dL_law_913 : decode cL_law 913 = .ok (.iload 5, 2) := by decide +kernel
theorem dL_law_915 : decode cL_law 915 = .ok (.if_icmp .eq 5, 3) := by decide +kernel
theorem dL_law_918 : decode cL_law 918 = .ok (.iconst 0, 1) := by decide +kernel
theorem dL_law_919 : decode cL_law 919 = .ok (.ireturn, 1) := by decide +kernel
theorem dL_law_920 : decode cL_law 920 = .ok (.iload 5, 2) := by decide +kernel
theorem dL_law_922 : decode cL_law 922 = .ok (.ifCond .ne 15, 3) := by decide +kernel
theorem dL_law_925 : decode cL_law 925 = .ok (.aload_n 3, 1) := by decide +kernel
theorem dL_law_926 : decode cL_law 926 = .ok (.iconst 0, 1) := by decide +kernel
theorem dL_law_927 : decode cL_law 927 = .ok (.laload, 1) := by decide +kernel
theorem dL_law_928 : decode cL_law 928 = .ok (.iload 6, 2) := by decide +kernel
theorem dL_law_930 : decode cL_law 930 = .ok (.i2l, 1) := by decide +kernel
theorem dL_law_931 : decode cL_law 931 = .ok (.lcmp, 1) := by decide +kernel
theorem dL_law_932 : decode cL_law 932 = .ok (.ifCond .eq 5, 3) := by decide +kernel
theorem dL_law_935 : decode cL_law 935 = .ok (.iconst 0, 1) := by decide +kernel
theorem dL_law_936 : decode cL_law 936 = .ok (.ireturn, 1) := by decide +kernel
theorem dL_law_937 : decode cL_law 937 = .ok (.goto 187, 3) := by decide +kernel
theorem dL_law_940 : decode cL_law 940 = .ok (.aload_n 1, 1) := by decide +kernel
theorem dL_law_941 : decode cL_law 941 = .ok (.aload_n 0, 1) := by decide +kernel
theorem dL_law_942 : decode cL_law 942 = .ok (.iload 4, 2) := by decide +kernel
theorem dL_law_944 : decode cL_law 944 = .ok (.iconst 1, 1) := by decide +kernel
theorem dL_law_945 : decode cL_law 945 = .ok (.iadd, 1) := by decide +kernel
theorem dL_law_946 : decode cL_law 946 = .ok (.iaload, 1) := by decide +kernel
theorem dL_law_947 : decode cL_law 947 = .ok (.aload_n 0, 1) := by decide +kernel
theorem dL_law_948 : decode cL_law 948 = .ok (.iload 4, 2) := by decide +kernel
theorem dL_law_950 : decode cL_law 950 = .ok (.iconst 2, 1) := by decide +kernel
theorem dL_law_951 : decode cL_law 951 = .ok (.iadd, 1) := by decide +kernel
theorem dL_law_952 : decode cL_law 952 = .ok (.iaload, 1) := by decide +kernel
theorem dL_law_953 : decode cL_law 953 = .ok (.aload_n 0, 1) := by decide +kernel
theorem dL_law_954 : decode cL_law 954 = .ok (.iload 4, 2) := by decide +kernel
theorem dL_law_956 : decode cL_law 956 = .ok (.iconst 3, 1) := by decide +kernel
theorem dL_law_957 : decode cL_law 957 = .ok (.iadd, 1) := by decide +kernel
theorem dL_law_958 : decode cL_law 958 = .ok (.iaload, 1) := by decide +kernel
theorem dL_law_959 : decode cL_law 959 = .ok (.aload_n 0, 1) := by decide +kernel
theorem dL_law_960 : decode cL_law 960 = .ok (.iload 4, 2) := by decide +kernel
theorem dL_law_962 : decode cL_law 962 = .ok (.iconst 4, 1) := by decide +kernel
theorem dL_law_963 : decode cL_law 963 = .ok (.iadd, 1) := by decide +kernel
theorem dL_law_964 : decode cL_law 964 = .ok (.iaload, 1) := by decide +kernel
theorem dL_law_965 : decode cL_law 965 = .ok (.aload_n 3, 1) := by decide +kernel
theorem dL_law_966 : decode cL_law 966 = .ok (.invokestatic 119, 3) := by decide +kernel
theorem dL_law_969 : decode cL_law 969 = .ok (.istore 5, 2) := by decide +kernel
theorem dL_law_971 : decode cL_law 971 = .ok (.aload_n 2, 1) := by decide +kernel
theorem dL_law_972 : decode cL_law 972 = .ok (.aload_n 0, 1) := by decide +kernel
theorem dL_law_973 : decode cL_law 973 = .ok (.iload 4, 2) := by decide +kernel
theorem dL_law_975 : decode cL_law 975 = .ok (.iconst 1, 1) := by decide +kernel
theorem dL_law_976 : decode cL_law 976 = .ok (.iadd, 1) := by decide +kernel
theorem dL_law_977 : decode cL_law 977 = .ok (.iaload, 1) := by decide +kernel
theorem dL_law_978 : decode cL_law 978 = .ok (.aload_n 0, 1) := by decide +kernel
theorem dL_law_979 : decode cL_law 979 = .ok (.iload 4, 2) := by decide +kernel
theorem dL_law_981 : decode cL_law 981 = .ok (.iconst 2, 1) := by decide +kernel
theorem dL_law_982 : decode cL_law 982 = .ok (.iadd, 1) := by decide +kernel
theorem dL_law_983 : decode cL_law 983 = .ok (.iaload, 1) := by decide +kernel
theorem dL_law_984 : decode cL_law 984 = .ok (.aload_n 0, 1) := by decide +kernel
theorem dL_law_985 : decode cL_law 985 = .ok (.iload 4, 2) := by decide +kernel
theorem dL_law_987 : decode cL_law 987 = .ok (.iconst 3, 1) := by decide +kernel
theorem dL_law_988 : decode cL_law 988 = .ok (.iadd, 1) := by decide +kernel
theorem dL_law_989 : decode cL_law 989 = .ok (.iaload, 1) := by decide +kernel
theorem dL_law_990 : decode cL_law 990 = .ok (.aload_n 0, 1) := by decide +kernel
theorem dL_law_991 : decode cL_law 991 = .ok (.iload 4, 2) := by decide +kernel
theorem dL_law_993 : decode cL_law 993 = .ok (.iconst 4, 1) := by decide +kernel
theorem dL_law_994 : decode cL_law 994 = .ok (.iadd, 1) := by decide +kernel
theorem dL_law_995 : decode cL_law 995 = .ok (.iaload, 1) := by decide +kernel
theorem dL_law_996 : decode cL_law 996 = .ok (.invokevirtual 121, 3) := by decide +kernel
theorem dL_law_999 : decode cL_law 999 = .ok (.istore 6, 2) := by decide +kernel
theorem dL_law_1001 : decode cL_law 1001 = .ok (.aload_n 2, 1) := by decide +kernel
theorem dL_law_1002 : decode cL_law 1002 = .ok (.invokevirtual 66, 3) := by decide +kernel
theorem dL_law_1005 : decode cL_law 1005 = .ok (.iload 5, 2) := by decide +kernel
theorem dL_law_1007 : decode cL_law 1007 = .ok (.if_icmp .eq 5, 3) := by decide +kernel
theorem dL_law_1010 : decode cL_law 1010 = .ok (.iconst 0, 1) := by decide +kernel
theorem dL_law_1011 : decode cL_law 1011 = .ok (.ireturn, 1) := by decide +kernel
theorem dL_law_1012 : decode cL_law 1012 = .ok (.iload 5, 2) := by decide +kernel
theorem dL_law_1014 : decode cL_law 1014 = .ok (.ifCond .ne 15, 3) := by decide +kernel
theorem dL_law_1017 : decode cL_law 1017 = .ok (.aload_n 3, 1) := by decide +kernel
theorem dL_law_1018 : decode cL_law 1018 = .ok (.iconst 0, 1) := by decide +kernel
theorem dL_law_1019 : decode cL_law 1019 = .ok (.laload, 1) := by decide +kernel
theorem dL_law_1020 : decode cL_law 1020 = .ok (.iload 6, 2) := by decide +kernel
theorem dL_law_1022 : decode cL_law 1022 = .ok (.i2l, 1) := by decide +kernel
theorem dL_law_1023 : decode cL_law 1023 = .ok (.lcmp, 1) := by decide +kernel
theorem dL_law_1024 : decode cL_law 1024 = .ok (.ifCond .eq 5, 3) := by decide +kernel
theorem dL_law_1027 : decode cL_law 1027 = .ok (.iconst 0, 1) := by decide +kernel
theorem dL_law_1028 : decode cL_law 1028 = .ok (.ireturn, 1) := by decide +kernel
theorem dL_law_1029 : decode cL_law 1029 = .ok (.goto 95, 3) := by decide +kernel
theorem dL_law_1032 : decode cL_law 1032 = .ok (.aload_n 1, 1) := by decide +kernel
theorem dL_law_1033 : decode cL_law 1033 = .ok (.aload_n 0, 1) := by decide +kernel
theorem dL_law_1034 : decode cL_law 1034 = .ok (.iload 4, 2) := by decide +kernel
theorem dL_law_1036 : decode cL_law 1036 = .ok (.iconst 1, 1) := by decide +kernel
theorem dL_law_1037 : decode cL_law 1037 = .ok (.iadd, 1) := by decide +kernel
theorem dL_law_1038 : decode cL_law 1038 = .ok (.iaload, 1) := by decide +kernel
theorem dL_law_1039 : decode cL_law 1039 = .ok (.aload_n 0, 1) := by decide +kernel
theorem dL_law_1040 : decode cL_law 1040 = .ok (.iload 4, 2) := by decide +kernel
theorem dL_law_1042 : decode cL_law 1042 = .ok (.iconst 2, 1) := by decide +kernel
theorem dL_law_1043 : decode cL_law 1043 = .ok (.iadd, 1) := by decide +kernel
theorem dL_law_1044 : decode cL_law 1044 = .ok (.iaload, 1) := by decide +kernel
theorem dL_law_1045 : decode cL_law 1045 = .ok (.aload_n 0, 1) := by decide +kernel
theorem dL_law_1046 : decode cL_law 1046 = .ok (.iload 4, 2) := by decide +kernel
theorem dL_law_1048 : decode cL_law 1048 = .ok (.iconst 3, 1) := by decide +kernel
theorem dL_law_1049 : decode cL_law 1049 = .ok (.iadd, 1) := by decide +kernel
theorem dL_law_1050 : decode cL_law 1050 = .ok (.iaload, 1) := by decide +kernel
theorem dL_law_1051 : decode cL_law 1051 = .ok (.aload_n 0, 1) := by decide +kernel
theorem dL_law_1052 : decode cL_law 1052 = .ok (.iload 4, 2) := by decide +kernel
theorem dL_law_1054 : decode cL_law 1054 = .ok (.iconst 4, 1) := by decide +kernel
theorem dL_law_1055 : decode cL_law 1055 = .ok (.iadd, 1) := by decide +kernel
theorem dL_law_1056 : decode cL_law 1056 = .ok (.iaload, 1) := by decide +kernel
theorem dL_law_1057 : decode cL_law 1057 = .ok (.aload_n 3, 1) := by decide +kernel
theorem dL_law_1058 : decode cL_law 1058 = .ok (.invokestatic 122, 3) := by decide +kernel
theorem dL_law_1061 : decode cL_law 1061 = .ok (.istore 5, 2) := by decide +kernel
theorem dL_law_1063 : decode cL_law 1063 = .ok (.aload_n 2, 1) := by decide +kernel
theorem dL_law_1064 : decode cL_law 1064 = .ok (.aload_n 0, 1) := by decide +kernel
theorem dL_law_1065 : decode cL_law 1065 = .ok (.iload 4, 2) := by decide +kernel
theorem dL_law_1067 : decode cL_law 1067 = .ok (.iconst 1, 1) := by decide +kernel
theorem dL_law_1068 : decode cL_law 1068 = .ok (.iadd, 1) := by decide +kernel
theorem dL_law_1069 : decode cL_law 1069 = .ok (.iaload, 1) := by decide +kernel
theorem dL_law_1070 : decode cL_law 1070 = .ok (.aload_n 0, 1) := by decide +kernel
theorem dL_law_1071 : decode cL_law 1071 = .ok (.iload 4, 2) := by decide +kernel
theorem dL_law_1073 : decode cL_law 1073 = .ok (.iconst 2, 1) := by decide +kernel
theorem dL_law_1074 : decode cL_law 1074 = .ok (.iadd, 1) := by decide +kernel
theorem dL_law_1075 : decode cL_law 1075 = .ok (.iaload, 1) := by decide +kernel
theorem dL_law_1076 : decode cL_law 1076 = .ok (.aload_n 0, 1) := by decide +kernel
theorem dL_law_1077 : decode cL_law 1077 = .ok (.iload 4, 2) := by decide +kernel
theorem dL_law_1079 : decode cL_law 1079 = .ok (.iconst 3, 1) := by decide +kernel
theorem dL_law_1080 : decode cL_law 1080 = .ok (.iadd, 1) := by decide +kernel
theorem dL_law_1081 : decode cL_law 1081 = .ok (.iaload, 1) := by decide +kernel
theorem dL_law_1082 : decode cL_law 1082 = .ok (.aload_n 0, 1) := by decide +kernel
theorem dL_law_1083 : decode cL_law 1083 = .ok (.iload 4, 2) := by decide +kernel
theorem dL_law_1085 : decode cL_law 1085 = .ok (.iconst 4, 1) := by decide +kernel
theorem dL_law_1086 : decode cL_law 1086 = .ok (.iadd, 1) := by decide +kernel
theorem dL_law_1087 : decode cL_law 1087 = .ok (.iaload, 1) := by decide +kernel
theorem dL_law_1088 : decode cL_law 1088 = .ok (.invokevirtual 124, 3) := by decide +kernel
theorem dL_law_1091 : decode cL_law 1091 = .ok (.istore 6, 2) := by decide +kernel
theorem dL_law_1093 : decode cL_law 1093 = .ok (.aload_n 2, 1) := by decide +kernel
theorem dL_law_1094 : decode cL_law 1094 = .ok (.invokevirtual 66, 3) := by decide +kernel
theorem dL_law_1097 : decode cL_law 1097 = .ok (.iload 5, 2) := by decide +kernel
theorem dL_law_1099 : decode cL_law 1099 = .ok (.if_icmp .eq 5, 3) := by decide +kernel
theorem dL_law_1102 : decode cL_law 1102 = .ok (.iconst 0, 1) := by decide +kernel
theorem dL_law_1103 : decode cL_law 1103 = .ok (.ireturn, 1) := by decide +kernel
theorem dL_law_1104 : decode cL_law 1104 = .ok (.iload 5, 2) := by decide +kernel
theorem dL_law_1106 : decode cL_law 1106 = .ok (.ifCond .ne 15, 3) := by decide +kernel
theorem dL_law_1109 : decode cL_law 1109 = .ok (.aload_n 3, 1) := by decide +kernel
theorem dL_law_1110 : decode cL_law 1110 = .ok (.iconst 0, 1) := by decide +kernel
theorem dL_law_1111 : decode cL_law 1111 = .ok (.laload, 1) := by decide +kernel
theorem dL_law_1112 : decode cL_law 1112 = .ok (.iload 6, 2) := by decide +kernel
theorem dL_law_1114 : decode cL_law 1114 = .ok (.i2l, 1) := by decide +kernel
theorem dL_law_1115 : decode cL_law 1115 = .ok (.lcmp, 1) := by decide +kernel
theorem dL_law_1116 : decode cL_law 1116 = .ok (.ifCond .eq 5, 3) := by decide +kernel
theorem dL_law_1119 : decode cL_law 1119 = .ok (.iconst 0, 1) := by decide +kernel
theorem dL_law_1120 : decode cL_law 1120 = .ok (.ireturn, 1) := by decide +kernel
theorem dL_law_1121 : decode cL_law 1121 = .ok (.goto 3, 3) := by decide +kernel
theorem dL_law_1124 : decode cL_law 1124 = .ok (.iinc 4 6, 3) := by decide +kernel
theorem dL_law_1127 : decode cL_law 1127 = .ok (.goto (-1104), 3) := by decide +kernel
theorem dL_law_1130 : decode cL_law 1130 = .ok (.iconst 1, 1) := by decide +kernel
theorem dL_law_1131 : decode cL_law 1131 = .ok (.ireturn, 1) := by decide +kernel
end
section
/-! MY BASE: worlds, knowledge, contracts, wrappers of the kit's rows -/
abbrev Ar (z : Nat) : Nat → Prop := fun q => z ≤ q
abbrev noA : Nat → Prop := fun _ => False
def wd (y : MethodName) (b : ByteArray) (n : Nat) (ret : Option FieldType) : List Cond := .code y b n ret :: WT
def wdH (y : MethodName) (b : ByteArray) (n : Nat) (ret : Option FieldType) (hh : List (Nat × Nat × Nat × Nat)) : List Cond := .codeWith y b n ret hh :: WT
def nwP : Cond := .fieldLinkNest RX2 27 RX0 "present" "I" RX2
def nwC : Cond := .fieldLinkNest RX2 54 RX1 "count" "I" RX2
def nwK : Cond := .methodLinkNest RX0 39 yX2_isKey RX2
def nwR : Cond := .methodLinkNest RX0 43 yX2_isPeriod RX2
def nwS : Cond := .methodLinkNest RX0 47 yX2_slotOf RX2
def nwL : Cond := .methodLinkNest RX0 77 yX2_relationOf RX2
/-- what is known of the classes, the array classes and the nest's links -/
def kn (D : va_G) (cI cZ cJ : ClassId) (U : State) : Prop := va_K D vwCl [(cI, .int), (cZ, .boolean), (cJ, .long)] U ∧ va_Nw nwP U ∧ va_Nw nwC U ∧ va_Nw nwK U ∧ va_Nw nwR U ∧ va_Nw nwS U ∧ va_Nw nwL U
theorem kn.moved {D : va_G} {cI cZ cJ : ClassId} {s U : State} (h : kn D cI cZ cJ s) (hW : s.WarmedH U.vm) : kn D cI cZ cJ U := ⟨va_K.moved hW.alike h.1, va_Nw.warmF hW h.2.1, va_Nw.warmF hW h.2.2.1, va_Nw.warmM hW h.2.2.2.1, va_Nw.warmM hW h.2.2.2.2.1, va_Nw.warmM hW h.2.2.2.2.2.1, va_Nw.warmM hW h.2.2.2.2.2.2⟩
theorem kn.same {D : va_G} {cI cZ cJ : ClassId} {s U : State} (h : kn D cI cZ cJ s) (hv : s.vm = U.vm) : kn D cI cZ cJ U := ⟨va_K.moved (by rw [hv]; exact Vm.Alike.refl _) h.1, va_Nw.same rfl hv h.2.1, va_Nw.same rfl hv h.2.2.1, va_Nw.same rfl hv h.2.2.2.1, va_Nw.same rfl hv h.2.2.2.2.1, va_Nw.same rfl hv h.2.2.2.2.2.1, va_Nw.same rfl hv h.2.2.2.2.2.2⟩
/-- a method's start: the world, apart and in the area -/
def pw (D : va_G) (cI cZ cJ : ClassId) (z : Nat) (ws : va_W) (U : State) : Prop := z ≤ U.heap.size ∧ va_P D vwCl ws U.heap ∧ va_D (Ar z) ws ∧ kn D cI cZ cJ U
/-- a body's present: the world in the heap H -/
def wi (D : va_G) (z : Nat) (A : Nat → Prop) (ws : va_W) (s : State) (H : Heap) (locs : List Loc) : Prop := z ≤ s.heap.size ∧ va_P D vwCl ws H ∧ va_D (Ar z) ws ∧ va_S A s.heap H locs
theorem pw.wi {D : va_G} {cI cZ cJ : ClassId} {z : Nat} {A : Nat → Prop} {ws : va_W} {s : State} (h : pw D cI cZ cJ z ws s) : wi D z A ws s s.heap [] := ⟨h.1, h.2.1, h.2.2.1, va_S.rf⟩
theorem wi.pw {D : va_G} {cI cZ cJ : ClassId} {z : Nat} {A : Nat → Prop} {ws : va_W} {s : State} {H : Heap} {locs : List Loc} (h : wi D z A ws s H locs) (hK : kn D cI cZ cJ s) {U : State} (hU : U.heap = H) (hW : s.WarmedH U.vm) : pw D cI cZ cJ z ws U := ⟨by rw [hU]; exact Nat.le_trans h.1 h.2.2.2.1, by rw [hU]; exact h.2.1, h.2.2.1, hK.moved hW⟩
theorem pw.blind {D : va_G} {cI cZ cJ : ClassId} {z : Nat} {ws : va_W} {av : List Value} : FrameBlind (va_Pc av (pw D cI cZ cJ z ws)) := fun _ _ _ _ q => ⟨q.1, q.2.1, q.2.2.1, q.2.2.2.1, q.2.2.2.2.same rfl⟩
theorem pw.ofP {D : va_G} {cI cZ cJ : ClassId} {z : Nat} {ws ws' : va_W} {U : State} (h : pw D cI cZ cJ z ws U) (is : List Nat) (hn : va_nd is = true) (hs : is.map (fun i => ws[i]?) = ws'.map some) (hs' : is.filterMap (fun i => ws[i]?) = ws') : pw D cI cZ cJ z ws' U := ⟨h.1, h.2.1.sub is hs', h.2.2.1.sub is hn hs, h.2.2.2⟩
theorem wi.ofP {D : va_G} {z : Nat} {A : Nat → Prop} {ws ws' : va_W} {s : State} {H : Heap} {locs : List Loc} (h : wi D z A ws s H locs) (is : List Nat) (hn : va_nd is = true) (hs : is.map (fun i => ws[i]?) = ws'.map some) (hs' : is.filterMap (fun i => ws[i]?) = ws') : wi D z A ws' s H locs := ⟨h.1, h.2.1.sub is hs', h.2.2.1.sub is hn hs, h.2.2.2⟩
def bi (b : Bool) : Int32 := if b then nI 1 else nI 0
theorem bi_t {b : Bool} (h : b = true) : bi b = nI 1 := by rw [h]; rfl
theorem bi_f {b : Bool} (h : b = false) : bi b = nI 0 := by rw [h]; rfl
theorem bi_0 (b : Bool) : bi b = 0 ↔ b = false := by cases b <;> simp [bi] <;> decide
theorem bi_nar (b : Bool) : narrow .boolean (.int (bi b)) = .int (bi b) := by cases b <;> rfl
theorem bi_vnar (b : Bool) : vp_nar .boolean (bi b) = bi b := by cases b <;> rfl
/-- contracts: a method that writes nothing and answers v -/
abbrev roM (l : Launch) (y : MethodName) (b : ByteArray) (mL : Nat) (ret : Option FieldType) (fr lo : Nat) (av : List Value) (B : State → Prop) (v : Int32) : Prop := Met l y (wd y b mL ret) { frames := fr, cells := 0, slots := 0, locals := lo } (va_Pc av B) (va_Qi (fun r (_ : Unit) => r = v) (fun _ _ => True) noA) 0 0 noA
abbrev rlM (l : Launch) (y : MethodName) (b : ByteArray) (mL : Nat) (ret : Option FieldType) (fr lo : Nat) (av : List Value) (B : State → Prop) (v : Int64) : Prop := Met l y (wd y b mL ret) { frames := fr, cells := 0, slots := 0, locals := lo } (va_Pc av B) (va_Ql (fun r (_ : Unit) => r = v) (fun _ _ => True) noA) 0 0 noA
/-- contracts: a method that changes the world -/
abbrev muM {S : Type} (l : Launch) (y : MethodName) (b : ByteArray) (mL : Nat) (ret : Option FieldType) (fr lo : Nat) (av : List Value) (B : State → Prop) (D : va_G) (z : Nat) (ws : S → va_W) (post : Int32 → S → Prop) : Prop := Met l y (wd y b mL ret) { frames := fr, cells := 0, slots := 0, locals := lo } (va_Pc av B) (va_Qi post (fun u t => va_P D vwCl (ws u) t.heap ∧ va_D (Ar z) (ws u)) (Ar z)) 0 0 (Ar z)
abbrev mlM {S : Type} (l : Launch) (y : MethodName) (b : ByteArray) (mL : Nat) (ret : Option FieldType) (fr lo : Nat) (av : List Value) (B : State → Prop) (D : va_G) (z : Nat) (ws : S → va_W) (post : Int64 → S → Prop) : Prop := Met l y (wd y b mL ret) { frames := fr, cells := 0, slots := 0, locals := lo } (va_Pc av B) (va_Ql post (fun u t => va_P D vwCl (ws u) t.heap ∧ va_D (Ar z) (ws u)) (Ar z)) 0 0 (Ar z)
abbrev mvM {S : Type} (l : Launch) (y : MethodName) (b : ByteArray) (mL : Nat) (fr lo : Nat) (av : List Value) (B : State → Prop) (D : va_G) (z : Nat) (ws : S → va_W) (post : S → Prop) : Prop := Met l y (wd y b mL none) { frames := fr, cells := 0, slots := 0, locals := lo } (va_Pc av B) (va_Qv post (fun u t => va_P D vwCl (ws u) t.heap ∧ va_D (Ar z) (ws u)) (Ar z)) 0 0 (Ar z)
/-- the fixed things of a body -/
def Fx (p : Program) (s : State) (m : MethodId) (args : Array Value) (meth : Method) (c : Code) (cc : ByteArray) (nL : Nat) (own : String) (ret : Option FieldType) : Prop := p.tables.exec = Jvm.exec ∧ c.code = cc ∧ c.maxLocals = nL ∧ s.vm.findClass own = some m.cls ∧ (∀ w ∈ WT, w.before args s = true) ∧ meth.sig.returnType = ret ∧ meth.locks = false
section BD
variable {l : Launch} {y : MethodName} {b : ByteArray} {mL : Nat} {ret : Option FieldType} {rm : Room} {av : List Value} {B : State → Prop} {Qc : Array Value → State → Outcome → State → Prop} {mc ms : Nat} {free : Addr → Prop}
theorem bd (hy : plainName y.cls = true) (hle : (lg_sl av).length ≤ mL) (body : ∀ (p : Program) (e : Env) (s : State) (m : MethodId) (below : List Frame) (meth : Method) (c : Code), Fx p s m av.toArray meth c b mL y.cls ret → B s → ∀ ls : Array Slot, lv_has ls mL (lv_args 0 av) → W p l e rm s m av.toArray below meth c s.heap [] 0 0 (MQ below Qc av.toArray s mc ms free) (F0 m 0 ls [])) : Met l y (wd y b mL ret) rm (va_Pc av B) Qc mc ms free := by
  refine Met.ofW (cc := b) (maxL := mL) (ret := ret) hy rfl ?_
  intro p e s m args below meth c s₁ Bd hml hv
  obtain ⟨rfl, hpw⟩ := hv
  have hts : ∀ w ∈ WT, w.before av.toArray s = true := fun w h => atoms_spec (ws := wd y b mL ret) Bd.pre w (List.mem_cons_of_mem _ h)
  have hl := lv_entry av (n := mL) hle
  rw [lg_entry_eq]
  exact body p e s m below meth c ⟨Bd.exec, Bd.bytes, hml, findClass_of_methodNamed Bd.named, hts, Bd.returns, Bd.notSynchronized⟩ hpw _ hl
end BD
/-- what a call needs of the tables of its callee -/
def cfV (y : MethodName) (b : ByteArray) (mL : Nat) (ret : Option FieldType) (n : Nat) : Prop := Cond.code y b mL ret ∈ WT ∧ Cond.instanceMethod y ∈ WT ∧ Cond.selects y.cls y y ∈ WT ∧ Cond.initialized y.cls ∈ WT ∧ (y.cls ≠ "java/lang/invoke/MethodHandle" ∧ y.cls ≠ "java/lang/invoke/VarHandle") ∧ (parseMethodDescriptor y.desc).map (fun d => d.parameters.length) = some n
def cfS (y : MethodName) (b : ByteArray) (mL : Nat) (ret : Option FieldType) (n : Nat) : Prop := Cond.code y b mL ret ∈ WT ∧ Cond.static y ∈ WT ∧ Cond.initialized y.cls ∈ WT ∧ (y.cls ≠ "java/lang/invoke/MethodHandle" ∧ y.cls ≠ "java/lang/invoke/VarHandle") ∧ (parseMethodDescriptor y.desc).map (fun d => d.parameters.length) = some n
def cfH (y : MethodName) (b : ByteArray) (mL : Nat) (ret : Option FieldType) (hh : List (Nat × Nat × Nat × Nat)) (n : Nat) : Prop := Cond.codeWith y b mL ret hh ∈ WT ∧ Cond.static y ∈ WT ∧ Cond.initialized y.cls ∈ WT ∧ (y.cls ≠ "java/lang/invoke/MethodHandle" ∧ y.cls ≠ "java/lang/invoke/VarHandle") ∧ (parseMethodDescriptor y.desc).map (fun d => d.parameters.length) = some n
theorem gd_wd {y : MethodName} {b : ByteArray} {mL : Nat} {ret : Option FieldType} (hc : Cond.code y b mL ret ∈ WT) : GoodIn WT (wd y b mL ret) := fun w h => (List.mem_cons.mp h).elim (fun e => by rw [e]; exact ⟨hc, wt_good _ hc⟩) (fun h => ⟨h, wt_good w h⟩)
section CALL
variable {p : Program} {l : Launch} {e : Env} {R : Room} {s : State} {m : MethodId} {args : Array Value} {below : List Frame} {meth : Method} {c : Code} {H : Heap} {locs : List Loc} {cells slots : Nat} {Q : State → Prop}
variable {y : MethodName} {b cc : ByteArray} {mL nL mc ms n idx : Nat} {ret ret0 : Option FieldType} {rm : Room} {Qc : Array Value → State → Outcome → State → Prop} {free : Addr → Prop} {own : String} {As rest st : List Value} {pc : Nat} {ls : Array Slot}
variable {D : va_G} {cI cZ cJ : ClassId} {z : Nat} {A : Nat → Prop} {ws : va_W}
theorem run_v (F : Fx p s m args meth c cc nL own ret0) (hK : kn D cI cZ cJ s) (hI : wi D z A ws s H locs) {ba : Nat} (hM : Met l y (wd y b mL ret) rm (va_Pc (.ref ba :: As) (pw D cI cZ cJ z ws)) Qc mc ms free) (f : cfV y b mL ret n) (kl : Cond.methodLink own idx y ∈ WT) (q0 ci : Nat) {fs : List Value} {T : u_T} {N : Nat} (hc : vwCl[ci]? = some (y.cls, T, N)) (he : ws[q0]? = some (ba, .inr (ci, fs)))
    (hR : rm.frames + 1 ≤ R.frames ∧ 8 + (mL + 11) + rm.locals ≤ R.locals) (hm : rm.cells = mc ∧ rm.slots = ms) (hm2 : cells + mc ≤ R.cells ∧ slots + ms ≤ R.slots) (hn : As.length = n) (hsz : ls.size = nL) (hst : st = As.reverse ++ .ref ba :: rest) (hW : (rest.map fun v => v.category).sum ≤ 8) (hdg : decode cc pc = .ok (.invokevirtual idx, 3)) :
    va_Run p l e R s m args below meth c H locs cells slots mc ms (F0 m pc ls st) rest (Qc (Value.ref ba :: As).toArray) free :=
  va_runV ⟨F.1, F.2.1, F.2.2.1, F.2.2.2.1, F.2.2.2.2.1⟩ hM ⟨callB_of n F.2.2.2.2.1 (gd_wd f.1) rfl hm.1 hm.2 (F.2.2.2.2.1 _ f.2.2.2.1) (F.2.2.2.2.1 _ kl) ⟨f.2.2.2.2.1.1, f.2.2.2.2.1.2, f.2.2.2.2.2⟩ hR, F.2.2.2.2.1 _ f.2.1, F.2.2.2.2.1 _ f.2.2.1⟩ ⟨pw.blind, va_recv hK.1 hI.2.1 hc he, fun U hU hW => ⟨rfl, hI.pw hK hU hW⟩⟩ rfl hn hsz hst (lv_room hW) hdg hm2
theorem run_s (F : Fx p s m args meth c cc nL own ret0) {B : State → Prop} (hM : Met l y (wd y b mL ret) rm (va_Pc As B) Qc mc ms free) (hbl : FrameBlind (va_Pc As B)) (hB : ∀ U : State, U.heap = H → s.WarmedH U.vm → B U) (f : cfS y b mL ret n) (kl : Cond.methodLink own idx y ∈ WT)
    (hR : rm.frames + 1 ≤ R.frames ∧ 8 + (mL + 11) + rm.locals ≤ R.locals) (hm : rm.cells = mc ∧ rm.slots = ms) (hm2 : cells + mc ≤ R.cells ∧ slots + ms ≤ R.slots) (hn : As.length = n) (hsz : ls.size = nL) (hst : st = As.reverse ++ rest) (hW : (rest.map fun v => v.category).sum ≤ 8) (hdg : decode cc pc = .ok (.invokestatic idx, 3)) :
    va_Run p l e R s m args below meth c H locs cells slots mc ms (F0 m pc ls st) rest (Qc As.toArray) free :=
  va_runS ⟨F.1, F.2.1, F.2.2.1, F.2.2.2.1, F.2.2.2.2.1⟩ hM ⟨callB_of n F.2.2.2.2.1 (gd_wd f.1) rfl hm.1 hm.2 (F.2.2.2.2.1 _ f.2.2.1) (F.2.2.2.2.1 _ kl) ⟨f.2.2.2.1.1, f.2.2.2.1.2, f.2.2.2.2⟩ hR, F.2.2.2.2.1 _ f.2.1⟩ ⟨hbl, fun U hU hW => ⟨rfl, hB U hU hW⟩⟩ rfl hn hsz hst (lv_room hW) hdg hm2
/-- a static method of the nest's host -/
theorem run_n (F : Fx p s m args meth c cc nL own ret0) {B : State → Prop} {host : String} (hM : Met l y (wd y b mL ret) rm (va_Pc As B) Qc mc ms free) (hbl : FrameBlind (va_Pc As B)) (hB : ∀ U : State, U.heap = H → s.WarmedH U.vm → B U) (f : cfS y b mL ret n) (kl : va_Nw (.methodLinkNest own idx y host) s)
    (hR : rm.frames + 1 ≤ R.frames ∧ 8 + (mL + 11) + rm.locals ≤ R.locals) (hm : rm.cells = mc ∧ rm.slots = ms) (hm2 : cells + mc ≤ R.cells ∧ slots + ms ≤ R.slots) (hn : As.length = n) (hsz : ls.size = nL) (hst : st = As.reverse ++ rest) (hW : (rest.map fun v => v.category).sum ≤ 8) (hdg : decode cc pc = .ok (.invokestatic idx, 3)) :
    va_Run p l e R s m args below meth c H locs cells slots mc ms (F0 m pc ls st) rest (Qc As.toArray) free :=
  va_runSN ⟨F.1, F.2.1, F.2.2.1, F.2.2.2.1, F.2.2.2.2.1⟩ hM ⟨va_cnB n F.2.2.2.2.1 (gd_wd f.1) rfl hm.1 hm.2 kl (F.2.2.2.2.1 _ f.2.2.1) ⟨f.2.2.2.1.1, f.2.2.2.1.2, f.2.2.2.2⟩ hR, F.2.2.2.2.1 _ f.2.1, trivial⟩ ⟨hbl, fun U hU hW => ⟨rfl, hB U hU hW⟩⟩ rfl hn hsz hst (lv_room hW) hdg hm2
theorem tt_blind {av : List Value} : FrameBlind (va_Pc av (fun _ => True)) := fun _ _ _ _ q => ⟨q.1, trivial⟩
variable {a' : Array Value} {v : Int32} {w : Int64}
theorem wi.kept {H1 : Heap} {locs1 : List Loc} (hI : wi D z A ws s H locs) (hk : ∀ q : Nat, q < H.size → ¬ noA q → H1[q]? = H[q]?) (hS : va_S A s.heap H1 locs1) : wi D z A ws s H1 locs1 := ⟨hI.1, hI.2.1.kept (fun k q hq => hk q.1 (hI.2.1 k q hq).lt (fun h => h)), hI.2.2.1, hS⟩
theorem k_ro (hr : va_Run p l e R s m args below meth c H locs cells slots 0 0 (F0 m pc ls st) rest (va_Qi (fun r (_ : Unit) => r = v) (fun _ _ => True) noA a') noA) (hI : wi D z A ws s H locs) (kk : ∀ (H : Heap) (locs : List Loc), wi D z A ws s H locs → W p l e R s m args below meth c H locs cells slots Q (F0 m (pc + 3) ls (.int v :: rest))) : W p l e R s m args below meth c H locs cells slots Q (F0 m pc ls st) :=
  va_calli hr hI.2.2.2 (fun q _ h => h.elim) (fun q h => h.elim) (fun r u t H1 locs1 ht hvm hw hB hz hk hS => by subst hw; exact kk H1 locs1 (hI.kept hk hS))
theorem k_rl (hr : va_Run p l e R s m args below meth c H locs cells slots 0 0 (F0 m pc ls st) rest (va_Ql (fun r (_ : Unit) => r = w) (fun _ _ => True) noA a') noA) (hI : wi D z A ws s H locs) (kk : ∀ (H : Heap) (locs : List Loc), wi D z A ws s H locs → W p l e R s m args below meth c H locs cells slots Q (F0 m (pc + 3) ls (.long w :: rest))) : W p l e R s m args below meth c H locs cells slots Q (F0 m pc ls st) :=
  va_calll hr hI.2.2.2 (fun q _ h => h.elim) (fun q h => h.elim) (fun r u t H1 locs1 ht hvm hw hB hz hk hS => by subst hw; exact kk H1 locs1 (hI.kept hk hS))
variable {S : Type} {ws' : S → va_W}
theorem k_mu {post : Int32 → S → Prop} (hr : va_Run p l e R s m args below meth c H locs cells slots mc ms (F0 m pc ls st) rest (va_Qi post (fun u t => va_P D vwCl (ws' u) t.heap ∧ va_D (Ar z) (ws' u)) (Ar z) a') (Ar z)) (hI : wi D z (Ar z) ws s H locs) (kk : ∀ (r : Int32) (u : S), post r u → ∀ (H : Heap) (locs : List Loc), wi D z (Ar z) (ws' u) s H locs → W p l e R s m args below meth c H locs (cells + mc) (slots + ms) Q (F0 m (pc + 3) ls (.int r :: rest))) : W p l e R s m args below meth c H locs cells slots Q (F0 m pc ls st) :=
  va_calli hr hI.2.2.2 (fun q _ h => h) (fun q h => h) (fun r u t H1 locs1 ht hvm hw hB hz hk hS => kk r u hw H1 locs1 ⟨hI.1, by rw [← ht]; exact hB.1, hB.2, hS⟩)
theorem k_ml {post : Int64 → S → Prop} (hr : va_Run p l e R s m args below meth c H locs cells slots mc ms (F0 m pc ls st) rest (va_Ql post (fun u t => va_P D vwCl (ws' u) t.heap ∧ va_D (Ar z) (ws' u)) (Ar z) a') (Ar z)) (hI : wi D z (Ar z) ws s H locs) (kk : ∀ (r : Int64) (u : S), post r u → ∀ (H : Heap) (locs : List Loc), wi D z (Ar z) (ws' u) s H locs → W p l e R s m args below meth c H locs (cells + mc) (slots + ms) Q (F0 m (pc + 3) ls (.long r :: rest))) : W p l e R s m args below meth c H locs cells slots Q (F0 m pc ls st) :=
  va_calll hr hI.2.2.2 (fun q _ h => h) (fun q h => h) (fun r u t H1 locs1 ht hvm hw hB hz hk hS => kk r u hw H1 locs1 ⟨hI.1, by rw [← ht]; exact hB.1, hB.2, hS⟩)
theorem k_mv {post : S → Prop} (hr : va_Run p l e R s m args below meth c H locs cells slots mc ms (F0 m pc ls st) rest (va_Qv post (fun u t => va_P D vwCl (ws' u) t.heap ∧ va_D (Ar z) (ws' u)) (Ar z) a') (Ar z)) (hI : wi D z (Ar z) ws s H locs) (kk : ∀ (u : S), post u → ∀ (H : Heap) (locs : List Loc), wi D z (Ar z) (ws' u) s H locs → W p l e R s m args below meth c H locs (cells + mc) (slots + ms) Q (F0 m (pc + 3) ls rest)) : W p l e R s m args below meth c H locs cells slots Q (F0 m pc ls st) :=
  va_callv hr hI.2.2.2 (fun q _ h => h) (fun q h => h) (fun u t H1 locs1 ht hvm hw hB hz hk hS => kk u hw H1 locs1 ⟨hI.1, by rw [← ht]; exact hB.1, hB.2, hS⟩)
/-- returns -/
theorem r_ro (F : Fx p s m args meth c cc nL own (some .int)) (hS : va_S noA s.heap H locs) {x : Int32} (hdg : decode cc pc = .ok (.ireturn, 1)) (hv : x = v) : W p l e R s m args below meth c H locs 0 0 (MQ below (va_Qi (fun r (_ : Unit) => r = v) (fun _ _ => True) noA) args s 0 0 noA) (F0 m pc ls [.int x]) :=
  W.iret F.1 F.2.1 F.2.2.2.2.2.1 (fun t ht hW => ⟨⟨x, (), rfl, hv, trivial⟩, hS.F ht⟩) hS.2.2 hdg F.2.2.2.2.2.2
theorem r_rz (F : Fx p s m args meth c cc nL own (some .boolean)) (hS : va_S noA s.heap H locs) {x : Int32} {q : Bool} (hdg : decode cc pc = .ok (.ireturn, 1)) (hv : x = bi q) : W p l e R s m args below meth c H locs 0 0 (MQ below (va_Qi (fun r (_ : Unit) => r = bi q) (fun _ _ => True) noA) args s 0 0 noA) (F0 m pc ls [.int x]) :=
  W.zret (ty := .boolean) F.1 F.2.1 F.2.2.2.2.2.1 (by rw [hv]; exact bi_nar q) (fun t ht hW => ⟨⟨x, (), rfl, hv, trivial⟩, hS.F ht⟩) hS.2.2 hdg F.2.2.2.2.2.2
theorem r_rl (F : Fx p s m args meth c cc nL own (some .long)) (hS : va_S noA s.heap H locs) {x : Int64} (hdg : decode cc pc = .ok (.lreturn, 1)) (hv : x = w) : W p l e R s m args below meth c H locs 0 0 (MQ below (va_Ql (fun r (_ : Unit) => r = w) (fun _ _ => True) noA) args s 0 0 noA) (F0 m pc ls [.long x]) :=
  W.lret F.1 F.2.1 F.2.2.2.2.2.1 (fun t ht hW => ⟨⟨x, (), rfl, hv, trivial⟩, hS.F ht⟩) hS.2.2 hdg F.2.2.2.2.2.2
theorem r_mu {post : Int32 → S → Prop} (F : Fx p s m args meth c cc nL own (some .int)) (u : S) (hI : wi D z (Ar z) (ws' u) s H locs) {x : Int32} (hdg : decode cc pc = .ok (.ireturn, 1)) (hp : post x u) : W p l e R s m args below meth c H locs 0 0 (MQ below (va_Qi post (fun u t => va_P D vwCl (ws' u) t.heap ∧ va_D (Ar z) (ws' u)) (Ar z)) args s 0 0 (Ar z)) (F0 m pc ls [.int x]) :=
  W.iret F.1 F.2.1 F.2.2.2.2.2.1 (fun t ht hW => ⟨⟨x, u, rfl, hp, by rw [ht]; exact hI.2.1, hI.2.2.1⟩, hI.2.2.2.F ht⟩) hI.2.2.2.2.2 hdg F.2.2.2.2.2.2
theorem r_mz {post : Int32 → S → Prop} (F : Fx p s m args meth c cc nL own (some .boolean)) (u : S) (hI : wi D z (Ar z) (ws' u) s H locs) {x : Int32} (q : Bool) (hdg : decode cc pc = .ok (.ireturn, 1)) (hx : x = bi q) (hp : post (bi q) u) : W p l e R s m args below meth c H locs 0 0 (MQ below (va_Qi post (fun u t => va_P D vwCl (ws' u) t.heap ∧ va_D (Ar z) (ws' u)) (Ar z)) args s 0 0 (Ar z)) (F0 m pc ls [.int x]) :=
  W.zret (ty := .boolean) F.1 F.2.1 F.2.2.2.2.2.1 (by rw [hx]; exact bi_nar q) (fun t ht hW => ⟨⟨x, u, rfl, by rw [hx]; exact hp, by rw [ht]; exact hI.2.1, hI.2.2.1⟩, hI.2.2.2.F ht⟩) hI.2.2.2.2.2 hdg F.2.2.2.2.2.2
theorem r_ml {post : Int64 → S → Prop} (F : Fx p s m args meth c cc nL own (some .long)) (u : S) (hI : wi D z (Ar z) (ws' u) s H locs) {x : Int64} (hdg : decode cc pc = .ok (.lreturn, 1)) (hp : post x u) : W p l e R s m args below meth c H locs 0 0 (MQ below (va_Ql post (fun u t => va_P D vwCl (ws' u) t.heap ∧ va_D (Ar z) (ws' u)) (Ar z)) args s 0 0 (Ar z)) (F0 m pc ls [.long x]) :=
  W.lret F.1 F.2.1 F.2.2.2.2.2.1 (fun t ht hW => ⟨⟨x, u, rfl, hp, by rw [ht]; exact hI.2.1, hI.2.2.1⟩, hI.2.2.2.F ht⟩) hI.2.2.2.2.2 hdg F.2.2.2.2.2.2
theorem r_mv {post : S → Prop} (F : Fx p s m args meth c cc nL own none) (u : S) (hI : wi D z (Ar z) (ws' u) s H locs) (hdg : decode cc pc = .ok (.return_, 1)) (hp : post u) : W p l e R s m args below meth c H locs 0 0 (MQ below (va_Qv post (fun u t => va_P D vwCl (ws' u) t.heap ∧ va_D (Ar z) (ws' u)) (Ar z)) args s 0 0 (Ar z)) (F0 m pc ls []) :=
  W.vret F.1 F.2.1 F.2.2.2.2.2.1 (fun t ht hW => ⟨⟨u, rfl, hp, by rw [ht]; exact hI.2.1, hI.2.2.1⟩, hI.2.2.2.F ht⟩) hI.2.2.2.2.2 hdg F.2.2.2.2.2.2
/-- the top of the stack, the same number said otherwise -/
theorem tp {x x' : Int32} (h : x = x') (k : W p l e R s m args below meth c H locs cells slots Q (F0 m pc ls (.int x' :: rest))) : W p l e R s m args below meth c H locs cells slots Q (F0 m pc ls (.int x :: rest)) := by rw [h]; exact k
theorem tpl {x x' : Int64} (h : x = x') (k : W p l e R s m args below meth c H locs cells slots Q (F0 m pc ls (.long x' :: rest))) : W p l e R s m args below meth c H locs cells slots Q (F0 m pc ls (.long x :: rest)) := by rw [h]; exact k
/-- arrays by natural indices -/
theorem ia_ld (hx : p.tables.exec = Jvm.exec) (hb : c.code = cc) (hK : kn D cI cZ cJ s) (hI : wi D z A ws s H locs) (q0 : Nat) {a k N : Nat} {f : Nat → Int32} (ha : ws[q0]? = some (a, .inl (cI, N, .inl f))) (hdg : decode cc pc = .ok (.iaload, 1)) (hk : k < N) (hN : N < 2 ^ 31) (kk : W p l e R s m args below meth c H locs cells slots Q (F0 m (pc + 1) ls (.int (f k) :: rest))) : W p l e R s m args below meth c H locs cells slots Q (F0 m pc ls (.int (nI k) :: .ref a :: rest)) :=
  va_iald hx hb hK.1 hI.2.1 q0 0 ha rfl (vp_in_nI hk hN) hdg (by rw [nI_clamp (Nat.lt_trans hk hN)]; exact kk)
theorem za_ld (hx : p.tables.exec = Jvm.exec) (hb : c.code = cc) (hK : kn D cI cZ cJ s) (hI : wi D z A ws s H locs) (q0 : Nat) {a k N : Nat} {f : Nat → Int32} (ha : ws[q0]? = some (a, .inl (cZ, N, .inl f))) (hdg : decode cc pc = .ok (.baload, 1)) (hk : k < N) (hN : N < 2 ^ 31) (kk : W p l e R s m args below meth c H locs cells slots Q (F0 m (pc + 1) ls (.int (f k) :: rest))) : W p l e R s m args below meth c H locs cells slots Q (F0 m pc ls (.int (nI k) :: .ref a :: rest)) :=
  va_zald hx hb hK.1 hI.2.1 q0 1 ha rfl (vp_in_nI hk hN) hdg (by rw [nI_clamp (Nat.lt_trans hk hN)]; exact kk)
theorem ia_st (hx : p.tables.exec = Jvm.exec) (hb : c.code = cc) (hK : kn D cI cZ cJ s) (hI : wi D z (Ar z) ws s H locs) (q0 : Nat) {a k N : Nat} {f : Nat → Int32} {x : Int32} (ha : ws[q0]? = some (a, .inl (cI, N, .inl f))) (hdg : decode cc pc = .ok (.iastore, 1)) (hk : k < N) (hN : N < 2 ^ 31) (kk : ∀ (H : Heap) (locs : List Loc), wi D z (Ar z) (ws.set q0 (a, .inl (cI, N, .inl (upd f k x)))) s H locs → W p l e R s m args below meth c H locs cells slots Q (F0 m (pc + 1) ls rest)) : W p l e R s m args below meth c H locs cells slots Q (F0 m pc ls (.int x :: .int (nI k) :: .ref a :: rest)) :=
  va_iast hx hb hK.1 hI.2.1 hI.2.2.1 hI.2.2.2 q0 0 ha rfl (vp_in_nI hk hN) hdg (fun H1 locs1 hP hD hS => by rw [nI_clamp (Nat.lt_trans hk hN)] at hP hD; exact kk H1 locs1 ⟨hI.1, hP, hD, hS⟩)
theorem za_st (hx : p.tables.exec = Jvm.exec) (hb : c.code = cc) (hK : kn D cI cZ cJ s) (hI : wi D z (Ar z) ws s H locs) (q0 : Nat) {a k N : Nat} {f : Nat → Int32} {q : Bool} (ha : ws[q0]? = some (a, .inl (cZ, N, .inl f))) (hdg : decode cc pc = .ok (.bastore, 1)) (hk : k < N) (hN : N < 2 ^ 31) (kk : ∀ (H : Heap) (locs : List Loc), wi D z (Ar z) (ws.set q0 (a, .inl (cZ, N, .inl (upd f k (bi q))))) s H locs → W p l e R s m args below meth c H locs cells slots Q (F0 m (pc + 1) ls rest)) : W p l e R s m args below meth c H locs cells slots Q (F0 m pc ls (.int (bi q) :: .int (nI k) :: .ref a :: rest)) :=
  va_zast hx hb hK.1 hI.2.1 hI.2.2.1 hI.2.2.2 q0 1 ha rfl (vp_in_nI hk hN) hdg (fun H1 locs1 hP hD hS => by rw [nI_clamp (Nat.lt_trans hk hN), bi_vnar] at hP hD; exact kk H1 locs1 ⟨hI.1, hP, hD, hS⟩)
-- branches over natural numbers
variable {off : Int} {tgt x1 y1 : Nat}
theorem nb_ge (hx : p.tables.exec = Jvm.exec) (hb : c.code = cc) (hdg : decode cc pc = .ok (.if_icmp .ge off, 3)) (ht : (pc : Int) + off = (tgt : Int)) (h1 : x1 < 2 ^ 31) (h2 : y1 < 2 ^ 31) (kt : y1 ≤ x1 → W p l e R s m args below meth c H locs cells slots Q (F0 m tgt ls rest)) (kf : x1 < y1 → W p l e R s m args below meth c H locs cells slots Q (F0 m (pc + 3) ls rest)) : W p l e R s m args below meth c H locs cells slots Q (F0 m pc ls (.int (nI y1) :: .int (nI x1) :: rest)) := lv_icmp_ge hx hb hdg ht (fun q => kt ((nI_leI h2 h1).mp q)) (fun q => kf (Nat.not_le.mp (fun w => q ((nI_leI h2 h1).mpr w))))
theorem nb_lt (hx : p.tables.exec = Jvm.exec) (hb : c.code = cc) (hdg : decode cc pc = .ok (.if_icmp .lt off, 3)) (ht : (pc : Int) + off = (tgt : Int)) (h1 : x1 < 2 ^ 31) (h2 : y1 < 2 ^ 31) (kt : x1 < y1 → W p l e R s m args below meth c H locs cells slots Q (F0 m tgt ls rest)) (kf : y1 ≤ x1 → W p l e R s m args below meth c H locs cells slots Q (F0 m (pc + 3) ls rest)) : W p l e R s m args below meth c H locs cells slots Q (F0 m pc ls (.int (nI y1) :: .int (nI x1) :: rest)) := lv_icmp_lt hx hb hdg ht (fun q => kt ((nI_ltI h1 h2).mp q)) (fun q => kf (Nat.not_lt.mp (fun w => q ((nI_ltI h1 h2).mpr w))))
theorem nb_gt (hx : p.tables.exec = Jvm.exec) (hb : c.code = cc) (hdg : decode cc pc = .ok (.if_icmp .gt off, 3)) (ht : (pc : Int) + off = (tgt : Int)) (h1 : x1 < 2 ^ 31) (h2 : y1 < 2 ^ 31) (kt : y1 < x1 → W p l e R s m args below meth c H locs cells slots Q (F0 m tgt ls rest)) (kf : x1 ≤ y1 → W p l e R s m args below meth c H locs cells slots Q (F0 m (pc + 3) ls rest)) : W p l e R s m args below meth c H locs cells slots Q (F0 m pc ls (.int (nI y1) :: .int (nI x1) :: rest)) := lv_icmp_gt hx hb hdg ht (fun q => kt ((nI_ltI h2 h1).mp q)) (fun q => kf (Nat.not_lt.mp (fun w => q ((nI_ltI h2 h1).mpr w))))
theorem nb_le (hx : p.tables.exec = Jvm.exec) (hb : c.code = cc) (hdg : decode cc pc = .ok (.if_icmp .le off, 3)) (ht : (pc : Int) + off = (tgt : Int)) (h1 : x1 < 2 ^ 31) (h2 : y1 < 2 ^ 31) (kt : x1 ≤ y1 → W p l e R s m args below meth c H locs cells slots Q (F0 m tgt ls rest)) (kf : y1 < x1 → W p l e R s m args below meth c H locs cells slots Q (F0 m (pc + 3) ls rest)) : W p l e R s m args below meth c H locs cells slots Q (F0 m pc ls (.int (nI y1) :: .int (nI x1) :: rest)) := lv_icmp_le hx hb hdg ht (fun q => kt ((nI_leI h1 h2).mp q)) (fun q => kf (Nat.not_le.mp (fun w => q ((nI_leI h1 h2).mpr w))))
theorem nb_eq (hx : p.tables.exec = Jvm.exec) (hb : c.code = cc) (hdg : decode cc pc = .ok (.if_icmp .eq off, 3)) (ht : (pc : Int) + off = (tgt : Int)) (h1 : x1 < 2 ^ 31) (h2 : y1 < 2 ^ 31) (kt : x1 = y1 → W p l e R s m args below meth c H locs cells slots Q (F0 m tgt ls rest)) (kf : ¬ x1 = y1 → W p l e R s m args below meth c H locs cells slots Q (F0 m (pc + 3) ls rest)) : W p l e R s m args below meth c H locs cells slots Q (F0 m pc ls (.int (nI y1) :: .int (nI x1) :: rest)) := lv_icmp_eq hx hb hdg ht (fun q => kt ((nI_eq h1 h2).mp q)) (fun q => kf (fun w => q ((nI_eq h1 h2).mpr w)))
theorem nb_ne (hx : p.tables.exec = Jvm.exec) (hb : c.code = cc) (hdg : decode cc pc = .ok (.if_icmp .ne off, 3)) (ht : (pc : Int) + off = (tgt : Int)) (h1 : x1 < 2 ^ 31) (h2 : y1 < 2 ^ 31) (kt : ¬ x1 = y1 → W p l e R s m args below meth c H locs cells slots Q (F0 m tgt ls rest)) (kf : x1 = y1 → W p l e R s m args below meth c H locs cells slots Q (F0 m (pc + 3) ls rest)) : W p l e R s m args below meth c H locs cells slots Q (F0 m pc ls (.int (nI y1) :: .int (nI x1) :: rest)) := lv_icmp_ne hx hb hdg ht (fun q => kt (fun w => q ((nI_eq h1 h2).mpr w))) (fun q => kf ((nI_eq h1 h2).mp q))
theorem nz_eq (hx : p.tables.exec = Jvm.exec) (hb : c.code = cc) (hdg : decode cc pc = .ok (.ifCond .eq off, 3)) (ht : (pc : Int) + off = (tgt : Int)) (h1 : x1 < 2 ^ 31) (kt : x1 = 0 → W p l e R s m args below meth c H locs cells slots Q (F0 m tgt ls rest)) (kf : ¬ x1 = 0 → W p l e R s m args below meth c H locs cells slots Q (F0 m (pc + 3) ls rest)) : W p l e R s m args below meth c H locs cells slots Q (F0 m pc ls (.int (nI x1) :: rest)) := lv_if_eq hx hb hdg ht (fun q => kt ((nI_eq h1 (by decide)).mp (q.trans nI_0.symm))) (fun q => kf (fun w => q (by rw [w]; exact nI_0)))
theorem nz_ne (hx : p.tables.exec = Jvm.exec) (hb : c.code = cc) (hdg : decode cc pc = .ok (.ifCond .ne off, 3)) (ht : (pc : Int) + off = (tgt : Int)) (h1 : x1 < 2 ^ 31) (kt : ¬ x1 = 0 → W p l e R s m args below meth c H locs cells slots Q (F0 m tgt ls rest)) (kf : x1 = 0 → W p l e R s m args below meth c H locs cells slots Q (F0 m (pc + 3) ls rest)) : W p l e R s m args below meth c H locs cells slots Q (F0 m pc ls (.int (nI x1) :: rest)) := lv_if_ne hx hb hdg ht (fun q => kt (fun w => q (by rw [w]; exact nI_0))) (fun q => kf ((nI_eq h1 (by decide)).mp (q.trans nI_0.symm)))
theorem nz_lt (hx : p.tables.exec = Jvm.exec) (hb : c.code = cc) (hdg : decode cc pc = .ok (.ifCond .lt off, 3)) (h1 : x1 < 2 ^ 31) (kf : W p l e R s m args below meth c H locs cells slots Q (F0 m (pc + 3) ls rest)) (ht : (pc : Int) + off = (tgt : Int)) : W p l e R s m args below meth c H locs cells slots Q (F0 m pc ls (.int (nI x1) :: rest)) := lv_if_lt hx hb hdg ht (fun q => absurd q (nI_pos h1)) (fun _ => kf)
theorem nz_ge (hx : p.tables.exec = Jvm.exec) (hb : c.code = cc) (hdg : decode cc pc = .ok (.ifCond .ge off, 3)) (ht : (pc : Int) + off = (tgt : Int)) (h1 : x1 < 2 ^ 31) (kt : W p l e R s m args below meth c H locs cells slots Q (F0 m tgt ls rest)) : W p l e R s m args below meth c H locs cells slots Q (F0 m pc ls (.int (nI x1) :: rest)) := lv_if_ge hx hb hdg ht (fun _ => kt) (fun q => absurd (nI_pos' h1) q)
theorem nz_le (hx : p.tables.exec = Jvm.exec) (hb : c.code = cc) (hdg : decode cc pc = .ok (.ifCond .le off, 3)) (ht : (pc : Int) + off = (tgt : Int)) (h1 : x1 < 2 ^ 31) (kt : x1 = 0 → W p l e R s m args below meth c H locs cells slots Q (F0 m tgt ls rest)) (kf : 0 < x1 → W p l e R s m args below meth c H locs cells slots Q (F0 m (pc + 3) ls rest)) : W p l e R s m args below meth c H locs cells slots Q (F0 m pc ls (.int (nI x1) :: rest)) := lv_if_le hx hb hdg ht (fun q => kt (Nat.le_zero.mp ((nI_leI h1 (by decide)).mp (by rw [nI_0]; exact q)))) (fun q => kf (Nat.pos_of_ne_zero (fun w => q (by rw [w, nI_0]; exact Int32.le_refl 0))))
variable {bq : Bool}
theorem bz_eq (hx : p.tables.exec = Jvm.exec) (hb : c.code = cc) (hdg : decode cc pc = .ok (.ifCond .eq off, 3)) (ht : (pc : Int) + off = (tgt : Int)) (kt : bq = false → W p l e R s m args below meth c H locs cells slots Q (F0 m tgt ls rest)) (kf : bq = true → W p l e R s m args below meth c H locs cells slots Q (F0 m (pc + 3) ls rest)) : W p l e R s m args below meth c H locs cells slots Q (F0 m pc ls (.int (bi bq) :: rest)) := lv_if_eq hx hb hdg ht (fun q => kt ((bi_0 bq).mp q)) (fun q => kf (by cases bq; exact absurd ((bi_0 false).mpr rfl) q; rfl))
theorem bz_ne (hx : p.tables.exec = Jvm.exec) (hb : c.code = cc) (hdg : decode cc pc = .ok (.ifCond .ne off, 3)) (ht : (pc : Int) + off = (tgt : Int)) (kt : bq = true → W p l e R s m args below meth c H locs cells slots Q (F0 m tgt ls rest)) (kf : bq = false → W p l e R s m args below meth c H locs cells slots Q (F0 m (pc + 3) ls rest)) : W p l e R s m args below meth c H locs cells slots Q (F0 m pc ls (.int (bi bq) :: rest)) := lv_if_ne hx hb hdg ht (fun q => kt (by cases bq; exact absurd ((bi_0 false).mpr rfl) q; rfl)) (fun q => kf ((bi_0 bq).mp q))
end CALL
end
section
-- starting texts of the kit, pasted: families of BITS, NUMBERS, COUNTS
/-! ===== Int32 by its bits: bt x i ===== -/
def bt (x : Int32) (i : Nat) : Bool := x.toBitVec.getLsbD i
theorem b_ext {x y : Int32} (h : ∀ i, i < 32 → bt x i = bt y i) : x = y := Int32.toBitVec_inj.mp (BitVec.eq_of_getLsbD_eq (fun i hi => h i hi))
theorem b_or (x y : Int32) (i : Nat) : bt (x ||| y) i = (bt x i || bt y i) := by unfold bt; rw [Int32.toBitVec_or, BitVec.getLsbD_or]
theorem b_and (x y : Int32) (i : Nat) : bt (x &&& y) i = (bt x i && bt y i) := by unfold bt; rw [Int32.toBitVec_and, BitVec.getLsbD_and]
theorem b_xor (x y : Int32) (i : Nat) : bt (x ^^^ y) i = (bt x i ^^ bt y i) := by unfold bt; rw [Int32.toBitVec_xor, BitVec.getLsbD_xor]
theorem b_big {x : Int32} {i : Nat} (h : 32 ≤ i) : bt x i = false := BitVec.getLsbD_of_ge _ _ h
theorem b_255 (i : Nat) : bt 255 i = decide (i < 8) := by
  rcases Nat.lt_or_ge i 32 with h | h
  · exact (by decide +kernel : ∀ i, i < 32 → bt 255 i = decide (i < 8)) i h
  · rw [b_big h, decide_eq_false (by omega)]
theorem b_65535 (i : Nat) : bt 65535 i = decide (i < 16) := by
  rcases Nat.lt_or_ge i 32 with h | h
  · exact (by decide +kernel : ∀ i, i < 32 → bt 65535 i = decide (i < 16)) i h
  · rw [b_big h, decide_eq_false (by omega)]
theorem b_m1 : ∀ i, i < 32 → bt (-1) i = true := by decide +kernel
theorem b_0 (i : Nat) : bt 0 i = false := BitVec.getLsbD_zero
theorem s_l : ∀ n, n < 32 → ((nI n &&& 31).toBitVec.smod 32).toNat = n := by decide +kernel
theorem s_u : ∀ n, n < 32 → (((nI n).toUInt32 &&& Int32.toUInt32 31).toBitVec % 32).toNat = n := by decide +kernel
theorem b_shl (n : Nat) (hn : n < 32) (x : Int32) {i : Nat} (hi : i < 32) : bt (x <<< (nI n &&& 31)) i = (decide (n ≤ i) && bt x (i - n)) := by
  unfold bt
  rw [Int32.toBitVec_shiftLeft]
  show (x.toBitVec <<< ((nI n &&& 31).toBitVec.smod 32).toNat).getLsbD i = _
  rw [s_l n hn, BitVec.getLsbD_shiftLeft]
  rcases Nat.lt_or_ge i n with h | h
  · simp [h, Nat.not_le.mpr h]
  · simp [hi, h, Nat.not_lt.mpr h]
theorem b_ushr (n : Nat) (hn : n < 32) (x : Int32) (i : Nat) : bt ((x.toUInt32 >>> ((nI n).toUInt32 &&& Int32.toUInt32 31)).toInt32) i = bt x (n + i) := by
  show (x.toUInt32 >>> ((nI n).toUInt32 &&& Int32.toUInt32 31)).toBitVec.getLsbD i = x.toUInt32.toBitVec.getLsbD (n + i)
  rw [UInt32.toBitVec_shiftRight]
  show (x.toUInt32.toBitVec >>> (((nI n).toUInt32 &&& Int32.toUInt32 31).toBitVec % 32).toNat).getLsbD i = _
  rw [s_u n hn, BitVec.getLsbD_ushiftRight]
theorem b_sshr (n : Nat) (hn : n < 32) (x : Int32) {i : Nat} (hi : i < 32) : bt (x >>> (nI n &&& 31)) i = if n + i < 32 then bt x (n + i) else bt x 31 := by
  unfold bt
  rw [Int32.toBitVec_shiftRight]
  show (x.toBitVec.sshiftRight ((nI n &&& 31).toBitVec.smod 32).toNat).getLsbD i = _
  rw [s_l n hn, BitVec.getLsbD_sshiftRight, BitVec.msb_eq_getLsbD_last]
  simp [hi]
theorem b_shl8 (x : Int32) {i : Nat} (hi : i < 32) : bt (x <<< ((8 : Int32) &&& 31)) i = (decide (8 ≤ i) && bt x (i - 8)) := b_shl 8 (by omega) x hi
theorem b_shl16 (x : Int32) {i : Nat} (hi : i < 32) : bt (x <<< ((16 : Int32) &&& 31)) i = (decide (16 ≤ i) && bt x (i - 16)) := b_shl 16 (by omega) x hi
theorem b_shl24 (x : Int32) {i : Nat} (hi : i < 32) : bt (x <<< ((24 : Int32) &&& 31)) i = (decide (24 ≤ i) && bt x (i - 24)) := b_shl 24 (by omega) x hi
theorem b_sshr8 (x : Int32) {i : Nat} (hi : i < 32) : bt (x >>> ((8 : Int32) &&& 31)) i = if 8 + i < 32 then bt x (8 + i) else bt x 31 := b_sshr 8 (by omega) x hi
/-! ===== order of ints, in all its forms, and through longs ===== -/
theorem fa_lt (a b : Int32) : a < b ↔ a.toInt < b.toInt := Int32.lt_iff_toInt_lt
theorem fa_le (a b : Int32) : a ≤ b ↔ a.toInt ≤ b.toInt := Int32.le_iff_toInt_le
theorem fa_eq (a b : Int32) : a = b ↔ a.toInt = b.toInt := Int32.toInt_inj.symm
theorem fa_lt64 (a b : Int64) : a < b ↔ a.toInt < b.toInt := Int64.lt_iff_toInt_lt
theorem fa_le64 (a b : Int64) : a ≤ b ↔ a.toInt ≤ b.toInt := Int64.le_iff_toInt_le
theorem fa_eq64 (a b : Int64) : a = b ↔ a.toInt = b.toInt := Int64.toInt_inj.symm
/-- a comparison of two ints taken as longs -/
theorem fa_wide_lt (a b : Int32) : a.toInt64 < b.toInt64 ↔ a < b := by rw [fa_lt64, fa_lt, Int32.toInt_toInt64, Int32.toInt_toInt64]
theorem fa_wide_le (a b : Int32) : a.toInt64 ≤ b.toInt64 ↔ a ≤ b := by rw [fa_le64, fa_le, Int32.toInt_toInt64, Int32.toInt_toInt64]
theorem fa_wide_eq (a b : Int32) : a.toInt64 = b.toInt64 ↔ a = b := by rw [fa_eq64, fa_eq, Int32.toInt_toInt64, Int32.toInt_toInt64]
/-- one strict comparison gives all the others -/
theorem fa_of_lt {a b : Int32} (h : a < b) : a ≤ b ∧ ¬ b ≤ a ∧ ¬ b < a ∧ a ≠ b ∧ b ≠ a := by
  rw [fa_lt] at h
  refine ⟨?_, ?_, ?_, ?_, ?_⟩
  · rw [fa_le]; omega
  · rw [fa_le]; omega
  · rw [fa_lt]; omega
  · intro e; rw [fa_eq] at e; omega
  · intro e; rw [fa_eq] at e; omega
theorem fa_of_nlt {a b : Int32} (h : ¬ a < b) : b ≤ a := by
  rw [fa_lt] at h
  rw [fa_le]
  omega
theorem fa_of_nle {a b : Int32} (h : ¬ a ≤ b) : b < a := by
  rw [fa_le] at h
  rw [fa_lt]
  omega
theorem fa_le_ne {a b : Int32} (h : a ≤ b) (h2 : a ≠ b) : a < b := by
  rw [fa_le] at h
  rw [fa_lt]
  have h3 : a.toInt ≠ b.toInt := fun e => h2 ((fa_eq a b).mpr e)
  omega
theorem fa_three (a b : Int32) : a < b ∨ a = b ∨ b < a := by
  rw [fa_lt, fa_lt, fa_eq]
  omega
theorem fa_trans {a b c : Int32} (h : a < b) (h2 : b ≤ c) : a < c := by
  rw [fa_lt] at *
  rw [fa_le] at h2
  omega
/-! ===== small literals as numbers ===== -/
theorem fa_lit (n : Nat) : (OfNat.ofNat n : Int32) = nI n := rfl
theorem fa_litL (n : Nat) : (OfNat.ofNat n : Int64) = lN n := rfl
/-! ===== how many places have a property ===== -/
def fb_ct (p : Nat → Bool) : Nat → Nat
  | 0 => 0
  | n + 1 => fb_ct p n + (if p n then 1 else 0)
theorem fb_ct_succ (p : Nat → Bool) (n : Nat) : fb_ct p (n + 1) = fb_ct p n + (if p n then 1 else 0) := rfl
theorem fb_ct_le (p : Nat → Bool) : ∀ n, fb_ct p n ≤ n
  | 0 => Nat.le_refl _
  | n + 1 => by
    have h := fb_ct_le p n
    rw [fb_ct_succ]
    split <;> omega
theorem fb_ct_step (p : Nat → Bool) (m : Nat) : ∀ n, fb_ct p m ≤ fb_ct p (m + n)
  | 0 => Nat.le_refl _
  | n + 1 => by
    have h := fb_ct_step p m n
    show fb_ct p m ≤ fb_ct p (m + n + 1)
    rw [fb_ct_succ]
    omega
theorem fb_ct_mono (p : Nat → Bool) {m n : Nat} (h : m ≤ n) : fb_ct p m ≤ fb_ct p n := by
  have := fb_ct_step p m (n - m)
  rwa [Nat.add_sub_cancel' h] at this
theorem fb_ct_cong {p q : Nat → Bool} : ∀ {n : Nat}, (∀ k, k < n → p k = q k) → fb_ct p n = fb_ct q n
  | 0, _ => rfl
  | n + 1, h => by
    rw [fb_ct_succ, fb_ct_succ, fb_ct_cong (fun k hk => h k (by omega)), h n (by omega)]
/-- one place changed -/
theorem fb_ct_out (p : Nat → Bool) (b : Bool) {i n : Nat} (h : n ≤ i) : fb_ct (fun k => if k = i then b else p k) n = fb_ct p n :=
  fb_ct_cong fun k hk => if_neg (by omega)
theorem fb_ct_upd (p : Nat → Bool) (b : Bool) {i : Nat} : ∀ {n : Nat}, i < n → fb_ct (fun k => if k = i then b else p k) n + (if p i then 1 else 0) = fb_ct p n + (if b then 1 else 0)
  | 0, h => absurd h (Nat.not_lt_zero i)
  | n + 1, h => by
    rw [fb_ct_succ, fb_ct_succ]
    rcases Nat.lt_or_ge i n with q | q
    · have := fb_ct_upd p b q
      have e : (if n = i then b else p n) = p n := if_neg (by omega)
      rw [e]
      omega
    · have e : i = n := by omega
      subst e
      rw [fb_ct_out p b (Nat.le_refl _)]
      simp only [if_true]
      omega
theorem fb_ct_sub {p q : Nat → Bool} : ∀ {n : Nat}, (∀ k, k < n → p k = true → q k = true) → fb_ct p n ≤ fb_ct q n
  | 0, _ => Nat.le_refl _
  | n + 1, h => by
    have h1 := fb_ct_sub (n := n) (p := p) (q := q) (fun k hk => h k (by omega))
    have h2 := h n (by omega)
    rw [fb_ct_succ, fb_ct_succ]
    cases hp : p n <;> cases hq : q n <;> simp_all <;> omega
theorem fb_ct_or {p q : Nat → Bool} : ∀ {n : Nat}, (∀ k, k < n → ¬ (p k = true ∧ q k = true)) → fb_ct (fun k => p k || q k) n = fb_ct p n + fb_ct q n
  | 0, _ => rfl
  | n + 1, h => by
    have h1 := fb_ct_or (n := n) (p := p) (q := q) (fun k hk => h k (by omega))
    have h2 := h n (by omega)
    rw [fb_ct_succ, fb_ct_succ, fb_ct_succ, h1]
    cases hp : p n <;> cases hq : q n <;> simp_all <;> omega
theorem fb_ct_not (p : Nat → Bool) : ∀ n, fb_ct p n + fb_ct (fun k => !p k) n = n
  | 0 => rfl
  | n + 1 => by
    have h := fb_ct_not p n
    rw [fb_ct_succ, fb_ct_succ]
    cases p n <;> simp <;> omega
theorem fb_ct_split (p : Nat → Bool) (m : Nat) : ∀ n, fb_ct p (m + n) = fb_ct p m + fb_ct (fun k => p (m + k)) n
  | 0 => rfl
  | n + 1 => by
    have h := fb_ct_split p m n
    show fb_ct p (m + n + 1) = _
    rw [fb_ct_succ, fb_ct_succ, h, Nat.add_assoc]
theorem fb_ct_zero {p : Nat → Bool} : ∀ {n : Nat}, fb_ct p n = 0 ↔ ∀ k, k < n → p k = false
  | 0 => ⟨fun _ k hk => absurd hk (Nat.not_lt_zero k), fun _ => rfl⟩
  | n + 1 => by
    have h := fb_ct_zero (p := p) (n := n)
    rw [fb_ct_succ]
    constructor
    · intro e k hk
      have e1 : fb_ct p n = 0 := by omega
      rcases Nat.lt_or_ge k n with q | q
      · exact h.mp e1 k q
      · have ek : k = n := by omega
        subst ek
        cases hp : p k
        · rfl
        · simp [hp] at e
    · intro a
      rw [h.mpr (fun k hk => a k (by omega)), a n (by omega)]
      rfl
theorem fb_ct_pos {p : Nat → Bool} {n : Nat} : 0 < fb_ct p n ↔ ∃ k, k < n ∧ p k = true := by
  constructor
  · intro h
    refine Classical.byContradiction fun hx => ?_
    have := fb_ct_zero.mpr (fun k hk => by
      cases hp : p k
      · rfl
      · exact absurd ⟨k, hk, hp⟩ hx : ∀ k, k < n → p k = false)
    omega
  · rintro ⟨k, hk, hp⟩
    rcases Nat.eq_zero_or_pos (fb_ct p n) with e | e
    · have := fb_ct_zero.mp e k hk
      rw [this] at hp
      cases hp
    · exact e
theorem fb_ct_all {p : Nat → Bool} {n : Nat} : fb_ct p n = n ↔ ∀ k, k < n → p k = true := by
  have h := fb_ct_not p n
  constructor
  · intro e k hk
    have z : fb_ct (fun k => !p k) n = 0 := by omega
    have := fb_ct_zero.mp z k hk
    cases hp : p k
    · simp [hp] at this
    · rfl
  · intro a
    have z : fb_ct (fun k => !p k) n = 0 := fb_ct_zero.mpr (fun k hk => by simp [a k hk])
    omega
/-- the k-th place with the property -/
theorem fb_ct_kth {p : Nat → Bool} {k : Nat} : ∀ {n : Nat}, k < fb_ct p n → ∃ i, i < n ∧ p i = true ∧ fb_ct p i = k
  | 0, h => absurd h (Nat.not_lt_zero k)
  | n + 1, h => by
    rcases Nat.lt_or_ge k (fb_ct p n) with q | q
    · obtain ⟨i, h1, h2⟩ := fb_ct_kth q
      exact ⟨i, by omega, h2⟩
    · rw [fb_ct_succ] at h
      cases hp : p n
      · simp [hp] at h; omega
      · simp [hp] at h
        exact ⟨n, by omega, hp, by omega⟩
theorem fb_ct_kth_one {p : Nat → Bool} {i j : Nat} (hi : p i = true) (hj : p j = true) (e : fb_ct p i = fb_ct p j) : i = j := by
  have key : ∀ a b : Nat, a < b → p a = true → fb_ct p a < fb_ct p b := by
    intro a b hab ha
    have h := fb_ct_mono p (show a + 1 ≤ b from hab)
    rw [fb_ct_succ, ha] at h
    simp at h
    omega
  rcases Nat.lt_trichotomy i j with q | q | q
  · have := key i j q hi; omega
  · exact q
  · have := key j i q hj; omega
/-! ===== sums over a range: one place changed, parts, bounds ===== -/
def fb_sm (f : Nat → Nat) : Nat → Nat
  | 0 => 0
  | n + 1 => fb_sm f n + f n
theorem fb_sm_succ (f : Nat → Nat) (n : Nat) : fb_sm f (n + 1) = fb_sm f n + f n := rfl
theorem fb_sm_cong {f g : Nat → Nat} : ∀ {n : Nat}, (∀ k, k < n → f k = g k) → fb_sm f n = fb_sm g n
  | 0, _ => rfl
  | n + 1, h => by rw [fb_sm_succ, fb_sm_succ, fb_sm_cong (fun k hk => h k (by omega)), h n (by omega)]
theorem fb_sm_out (f : Nat → Nat) (v : Nat) {i n : Nat} (h : n ≤ i) : fb_sm (fun k => if k = i then v else f k) n = fb_sm f n :=
  fb_sm_cong fun k hk => if_neg (by omega)
theorem fb_sm_upd (f : Nat → Nat) (v : Nat) {i : Nat} : ∀ {n : Nat}, i < n → fb_sm (fun k => if k = i then v else f k) n + f i = fb_sm f n + v
  | 0, h => absurd h (Nat.not_lt_zero i)
  | n + 1, h => by
    rw [fb_sm_succ, fb_sm_succ]
    rcases Nat.lt_or_ge i n with q | q
    · have := fb_sm_upd f v q
      have e : (if n = i then v else f n) = f n := if_neg (by omega)
      rw [e]
      omega
    · have e : i = n := by omega
      subst e
      rw [fb_sm_out f v (Nat.le_refl _)]
      simp only [if_true]
      omega
theorem fb_sm_add (f g : Nat → Nat) : ∀ n, fb_sm (fun k => f k + g k) n = fb_sm f n + fb_sm g n
  | 0 => rfl
  | n + 1 => by
    have h := fb_sm_add f g n
    rw [fb_sm_succ, fb_sm_succ, fb_sm_succ, h]
    omega
theorem fb_sm_le {f g : Nat → Nat} : ∀ {n : Nat}, (∀ k, k < n → f k ≤ g k) → fb_sm f n ≤ fb_sm g n
  | 0, _ => Nat.le_refl _
  | n + 1, h => by
    have h1 := fb_sm_le (n := n) (f := f) (g := g) (fun k hk => h k (by omega))
    have h2 := h n (by omega)
    rw [fb_sm_succ, fb_sm_succ]
    omega
theorem fb_sm_const (c : Nat) : ∀ n, fb_sm (fun _ => c) n = n * c
  | 0 => by rw [Nat.zero_mul]; rfl
  | n + 1 => by rw [fb_sm_succ, fb_sm_const c n, Nat.succ_mul]
theorem fb_sm_bound {f : Nat → Nat} {c n : Nat} (h : ∀ k, k < n → f k ≤ c) : fb_sm f n ≤ n * c := by
  rw [← fb_sm_const c n]
  exact fb_sm_le h
theorem fb_sm_mono (f : Nat → Nat) (m : Nat) : ∀ n, fb_sm f m ≤ fb_sm f (m + n)
  | 0 => Nat.le_refl _
  | n + 1 => by
    have h := fb_sm_mono f m n
    show fb_sm f m ≤ fb_sm f (m + n + 1)
    rw [fb_sm_succ]
    omega
theorem fb_sm_part (f : Nat → Nat) {i n : Nat} (h : i < n) : fb_sm f i + f i ≤ fb_sm f n := by
  have := fb_sm_mono f (i + 1) (n - (i + 1))
  rw [fb_sm_succ, show i + 1 + (n - (i + 1)) = n by omega] at this
  exact this
theorem fb_sm_split (f : Nat → Nat) (m : Nat) : ∀ n, fb_sm f (m + n) = fb_sm f m + fb_sm (fun k => f (m + k)) n
  | 0 => rfl
  | n + 1 => by
    have h := fb_sm_split f m n
    show fb_sm f (m + n + 1) = _
    rw [fb_sm_succ, fb_sm_succ, h, Nat.add_assoc]
theorem fb_sm_zero {f : Nat → Nat} {n : Nat} (h : fb_sm f n = 0) : ∀ k, k < n → f k = 0 := fun k hk => by
  have := fb_sm_part f hk
  omega
/-- the same over whole numbers -/
def fb_si (f : Nat → Int) : Nat → Int
  | 0 => 0
  | n + 1 => fb_si f n + f n
theorem fb_si_succ (f : Nat → Int) (n : Nat) : fb_si f (n + 1) = fb_si f n + f n := rfl
theorem fb_si_cong {f g : Nat → Int} : ∀ {n : Nat}, (∀ k, k < n → f k = g k) → fb_si f n = fb_si g n
  | 0, _ => rfl
  | n + 1, h => by rw [fb_si_succ, fb_si_succ, fb_si_cong (fun k hk => h k (by omega)), h n (by omega)]
theorem fb_si_out (f : Nat → Int) (v : Int) {i n : Nat} (h : n ≤ i) : fb_si (fun k => if k = i then v else f k) n = fb_si f n :=
  fb_si_cong fun k hk => if_neg (by omega)
theorem fb_si_upd (f : Nat → Int) (v : Int) {i : Nat} : ∀ {n : Nat}, i < n → fb_si (fun k => if k = i then v else f k) n = fb_si f n - f i + v
  | 0, h => absurd h (Nat.not_lt_zero i)
  | n + 1, h => by
    rw [fb_si_succ, fb_si_succ]
    rcases Nat.lt_or_ge i n with q | q
    · have := fb_si_upd f v q
      have e : (if n = i then v else f n) = f n := if_neg (by omega)
      rw [e]
      omega
    · have e : i = n := by omega
      subst e
      rw [fb_si_out f v (Nat.le_refl _)]
      simp only [if_true]
      omega
theorem fb_si_add (f g : Nat → Int) : ∀ n, fb_si (fun k => f k + g k) n = fb_si f n + fb_si g n
  | 0 => rfl
  | n + 1 => by
    have h := fb_si_add f g n
    rw [fb_si_succ, fb_si_succ, fb_si_succ, h]
    omega
theorem fb_si_sub (f g : Nat → Int) : ∀ n, fb_si (fun k => f k - g k) n = fb_si f n - fb_si g n
  | 0 => rfl
  | n + 1 => by
    have h := fb_si_sub f g n
    rw [fb_si_succ, fb_si_succ, fb_si_succ, h]
    omega
theorem fb_si_mul (c : Int) (f : Nat → Int) : ∀ n, fb_si (fun k => c * f k) n = c * fb_si f n
  | 0 => (Int.mul_zero c).symm
  | n + 1 => by
    have h := fb_si_mul c f n
    rw [fb_si_succ, fb_si_succ, h, Int.mul_add]
theorem fb_si_split (f : Nat → Int) (m : Nat) : ∀ n, fb_si f (m + n) = fb_si f m + fb_si (fun k => f (m + k)) n
  | 0 => (Int.add_zero _).symm
  | n + 1 => by
    have h := fb_si_split f m n
    show fb_si f (m + n + 1) = _
    rw [fb_si_succ, fb_si_succ, h, Int.add_assoc]
theorem fb_si_nat (f : Nat → Nat) : ∀ n, fb_si (fun k => (f k : Int)) n = (fb_sm f n : Int)
  | 0 => rfl
  | n + 1 => by
    have h := fb_si_nat f n
    rw [fb_si_succ, fb_sm_succ, h]
    omega
theorem fb_si_bound {f : Nat → Int} {c : Int} (hc : 0 ≤ c) : ∀ {n : Nat}, (∀ k, k < n → -c ≤ f k ∧ f k ≤ c) → -(n * c) ≤ fb_si f n ∧ fb_si f n ≤ n * c
  | 0, _ => by simp [fb_si]
  | n + 1, h => by
    have h1 := fb_si_bound (n := n) (f := f) hc (fun k hk => h k (by omega))
    have h2 := h n (by omega)
    have e : ((n + 1 : Nat) : Int) * c = n * c + c := by rw [Int.natCast_add, Int.add_mul]; simp
    rw [fb_si_succ, e]
    omega
/-! ===== a stretch of an array written over by a function ===== -/
def fb_put {α : Type} (f g : Nat → α) (a n : Nat) : Nat → α := fun k => if a ≤ k ∧ k < a + n then g (k - a) else f k
theorem fb_put_0 {α : Type} (f g : Nat → α) (a : Nat) : fb_put f g a 0 = f := funext fun k => if_neg (by omega)
theorem fb_put_in {α : Type} {f g : Nat → α} {a n k : Nat} (h1 : a ≤ k) (h2 : k < a + n) : fb_put f g a n k = g (k - a) := if_pos ⟨h1, h2⟩
theorem fb_put_out {α : Type} {f g : Nat → α} {a n k : Nat} (h : k < a ∨ a + n ≤ k) : fb_put f g a n k = f k := if_neg (by omega)
theorem fb_put_succ (f g : Nat → Int32) (a n : Nat) : upd (fb_put f g a n) (a + n) (g n) = fb_put f g a (n + 1) := by
  funext k
  by_cases h : k = a + n
  · subst h
    simp [upd, fb_put]
  · by_cases h1 : a ≤ k ∧ k < a + n
    · have h2 : a ≤ k ∧ k < a + (n + 1) := by omega
      simp only [upd, fb_put, if_neg h, if_pos h1, if_pos h2]
    · have h2 : ¬ (a ≤ k ∧ k < a + (n + 1)) := by omega
      simp only [upd, fb_put, if_neg h, if_neg h1, if_neg h2]
/-- .. from the far end down -/
theorem fb_put_down (f g : Nat → Int32) {a n m : Nat} (h : m < n) : upd (fb_put f (fun k => g (k + (m + 1))) (a + (m + 1)) (n - (m + 1))) (a + m) (g m) = fb_put f (fun k => g (k + m)) (a + m) (n - m) := by
  funext k
  by_cases h0 : k = a + m
  · subst h0
    simp only [upd, if_true]
    rw [fb_put_in (by omega) (by omega)]
    exact congrArg g (by omega)
  · simp only [upd, if_neg h0]
    by_cases h1 : a + (m + 1) ≤ k ∧ k < a + (m + 1) + (n - (m + 1))
    · rw [fb_put_in h1.1 h1.2, fb_put_in (by omega) (by omega)]
      exact congrArg g (by omega)
    · rw [fb_put_out (by omega), fb_put_out (by omega)]
theorem fb_put_cong {α : Type} {f f2 g g2 : Nat → α} {a n : Nat} (hf : ∀ k, (k < a ∨ a + n ≤ k) → f k = f2 k) (hg : ∀ k, k < n → g k = g2 k) : fb_put f g a n = fb_put f2 g2 a n := by
  funext k
  by_cases h : a ≤ k ∧ k < a + n
  · rw [fb_put_in h.1 h.2, fb_put_in h.1 h.2, hg _ (by omega)]
  · rw [fb_put_out (by omega), fb_put_out (by omega), hf _ (by omega)]
/-! ===== signed ints as whole numbers, within bounds ===== -/
theorem fb_rng (x : Int32) : -2147483648 ≤ x.toInt ∧ x.toInt < 2147483648 := by
  have h1 := Int32.le_toInt x
  have h2 := Int32.toInt_lt x
  omega
theorem fb_bmod {z : Int} (h1 : -2147483648 ≤ z) (h2 : z < 2147483648) : z.bmod (2 ^ 32) = z := by
  rw [Int.bmod_eq_of_le (by omega) (by omega)]
theorem fb_addI {x y : Int32} (h1 : -2147483648 ≤ x.toInt + y.toInt) (h2 : x.toInt + y.toInt < 2147483648) : (x + y).toInt = x.toInt + y.toInt := by
  rw [Int32.toInt_add, fb_bmod h1 h2]
theorem fb_subI {x y : Int32} (h1 : -2147483648 ≤ x.toInt - y.toInt) (h2 : x.toInt - y.toInt < 2147483648) : (x - y).toInt = x.toInt - y.toInt := by
  rw [Int32.toInt_sub, fb_bmod h1 h2]
theorem fb_mulI {x y : Int32} (h1 : -2147483648 ≤ x.toInt * y.toInt) (h2 : x.toInt * y.toInt < 2147483648) : (x * y).toInt = x.toInt * y.toInt := by
  rw [Int32.toInt_mul, fb_bmod h1 h2]
theorem fb_negI {x : Int32} (h : x.toInt ≠ -2147483648) : (-x).toInt = -x.toInt := by
  have := fb_rng x
  rw [Int32.toInt_neg, fb_bmod (by omega) (by omega)]
theorem fb_ofI {z : Int} (h1 : -2147483648 ≤ z) (h2 : z < 2147483648) : (Int32.ofInt z).toInt = z := by
  rw [Int32.toInt_ofInt, fb_bmod h1 h2]
theorem fb_asI (x : Int32) : Int32.ofInt x.toInt = x := Int32.ofInt_toInt x
theorem fb_rngL (x : Int64) : -9223372036854775808 ≤ x.toInt ∧ x.toInt < 9223372036854775808 := by
  have h1 := Int64.le_toInt x
  have h2 := Int64.toInt_lt x
  omega
theorem fb_bmodL {z : Int} (h1 : -9223372036854775808 ≤ z) (h2 : z < 9223372036854775808) : z.bmod (2 ^ 64) = z := by
  rw [Int.bmod_eq_of_le (by omega) (by omega)]
theorem fb_addL {x y : Int64} (h1 : -9223372036854775808 ≤ x.toInt + y.toInt) (h2 : x.toInt + y.toInt < 9223372036854775808) : (x + y).toInt = x.toInt + y.toInt := by
  rw [Int64.toInt_add, fb_bmodL h1 h2]
theorem fb_subL {x y : Int64} (h1 : -9223372036854775808 ≤ x.toInt - y.toInt) (h2 : x.toInt - y.toInt < 9223372036854775808) : (x - y).toInt = x.toInt - y.toInt := by
  rw [Int64.toInt_sub, fb_bmodL h1 h2]
theorem fb_mulL {x y : Int64} (h1 : -9223372036854775808 ≤ x.toInt * y.toInt) (h2 : x.toInt * y.toInt < 9223372036854775808) : (x * y).toInt = x.toInt * y.toInt := by
  rw [Int64.toInt_mul, fb_bmodL h1 h2]
end
section
/-! bodies with an opaque end: the contract's post stands in the rule 'hret' -/
abbrev rmv (fr lo : Nat) : Room := { frames := fr, cells := 0, slots := 0, locals := lo }
section BODY
variable {l : Launch} {y : MethodName} {b : ByteArray} {mL fr lo : Nat} {ret : Option FieldType} {av : List Value} {B : State → Prop} {v : Int32} {w : Int64} {q : Bool}
theorem bd_ro (hy : plainName y.cls = true) (hle : (lg_sl av).length ≤ mL) (body : ∀ (p : Program) (e : Env) (s : State) (m : MethodId) (args : Array Value) (below : List Frame) (meth : Method) (c : Code) (Q : State → Prop), Fx p s m args meth c b mL y.cls (some .int) → B s → (∀ {H : Heap} {locs : List Loc} {ls : Array Slot} {pc : Nat} {x : Int32}, va_S noA s.heap H locs → decode b pc = .ok (.ireturn, 1) → x = v → W p l e (rmv fr lo) s m args below meth c H locs 0 0 Q (F0 m pc ls [.int x])) → ∀ ls : Array Slot, lv_has ls mL (lv_args 0 av) → W p l e (rmv fr lo) s m args below meth c s.heap [] 0 0 Q (F0 m 0 ls [])) : roM l y b mL (some .int) fr lo av B v :=
  bd hy hle (fun p e s m below meth c F hB ls hl => body p e s m _ below meth c _ F hB (fun hS hdg hv => r_ro F hS hdg hv) ls hl)
theorem bd_rz (hy : plainName y.cls = true) (hle : (lg_sl av).length ≤ mL) (body : ∀ (p : Program) (e : Env) (s : State) (m : MethodId) (args : Array Value) (below : List Frame) (meth : Method) (c : Code) (Q : State → Prop), Fx p s m args meth c b mL y.cls (some .boolean) → B s → (∀ {H : Heap} {locs : List Loc} {ls : Array Slot} {pc : Nat} {x : Int32}, va_S noA s.heap H locs → decode b pc = .ok (.ireturn, 1) → x = bi q → W p l e (rmv fr lo) s m args below meth c H locs 0 0 Q (F0 m pc ls [.int x])) → ∀ ls : Array Slot, lv_has ls mL (lv_args 0 av) → W p l e (rmv fr lo) s m args below meth c s.heap [] 0 0 Q (F0 m 0 ls [])) : roM l y b mL (some .boolean) fr lo av B (bi q) :=
  bd hy hle (fun p e s m below meth c F hB ls hl => body p e s m _ below meth c _ F hB (fun hS hdg hv => r_rz F hS hdg hv) ls hl)
theorem bd_rl (hy : plainName y.cls = true) (hle : (lg_sl av).length ≤ mL) (body : ∀ (p : Program) (e : Env) (s : State) (m : MethodId) (args : Array Value) (below : List Frame) (meth : Method) (c : Code) (Q : State → Prop), Fx p s m args meth c b mL y.cls (some .long) → B s → (∀ {H : Heap} {locs : List Loc} {ls : Array Slot} {pc : Nat} {x : Int64}, va_S noA s.heap H locs → decode b pc = .ok (.lreturn, 1) → x = w → W p l e (rmv fr lo) s m args below meth c H locs 0 0 Q (F0 m pc ls [.long x])) → ∀ ls : Array Slot, lv_has ls mL (lv_args 0 av) → W p l e (rmv fr lo) s m args below meth c s.heap [] 0 0 Q (F0 m 0 ls [])) : rlM l y b mL (some .long) fr lo av B w :=
  bd hy hle (fun p e s m below meth c F hB ls hl => body p e s m _ below meth c _ F hB (fun hS hdg hv => r_rl F hS hdg hv) ls hl)
variable {S : Type} {D : va_G} {z : Nat} {ws' : S → va_W}
theorem bd_mu {post : Int32 → S → Prop} (hy : plainName y.cls = true) (hle : (lg_sl av).length ≤ mL) (body : ∀ (p : Program) (e : Env) (s : State) (m : MethodId) (args : Array Value) (below : List Frame) (meth : Method) (c : Code) (Q : State → Prop), Fx p s m args meth c b mL y.cls (some .int) → B s → (∀ {H : Heap} {locs : List Loc} {ls : Array Slot} {pc : Nat} {x : Int32} (u : S), wi D z (Ar z) (ws' u) s H locs → decode b pc = .ok (.ireturn, 1) → post x u → W p l e (rmv fr lo) s m args below meth c H locs 0 0 Q (F0 m pc ls [.int x])) → ∀ ls : Array Slot, lv_has ls mL (lv_args 0 av) → W p l e (rmv fr lo) s m args below meth c s.heap [] 0 0 Q (F0 m 0 ls [])) : muM l y b mL (some .int) fr lo av B D z ws' post :=
  bd hy hle (fun p e s m below meth c F hB ls hl => body p e s m _ below meth c _ F hB (fun u hI hdg hp => r_mu F u hI hdg hp) ls hl)
theorem bd_mz {post : Int32 → S → Prop} (hy : plainName y.cls = true) (hle : (lg_sl av).length ≤ mL) (body : ∀ (p : Program) (e : Env) (s : State) (m : MethodId) (args : Array Value) (below : List Frame) (meth : Method) (c : Code) (Q : State → Prop), Fx p s m args meth c b mL y.cls (some .boolean) → B s → (∀ {H : Heap} {locs : List Loc} {ls : Array Slot} {pc : Nat} {x : Int32} (u : S) (q : Bool), wi D z (Ar z) (ws' u) s H locs → decode b pc = .ok (.ireturn, 1) → x = bi q → post (bi q) u → W p l e (rmv fr lo) s m args below meth c H locs 0 0 Q (F0 m pc ls [.int x])) → ∀ ls : Array Slot, lv_has ls mL (lv_args 0 av) → W p l e (rmv fr lo) s m args below meth c s.heap [] 0 0 Q (F0 m 0 ls [])) : muM l y b mL (some .boolean) fr lo av B D z ws' post :=
  bd hy hle (fun p e s m below meth c F hB ls hl => body p e s m _ below meth c _ F hB (fun u q hI hdg hx hp => r_mz F u hI q hdg hx hp) ls hl)
theorem bd_ml {post : Int64 → S → Prop} (hy : plainName y.cls = true) (hle : (lg_sl av).length ≤ mL) (body : ∀ (p : Program) (e : Env) (s : State) (m : MethodId) (args : Array Value) (below : List Frame) (meth : Method) (c : Code) (Q : State → Prop), Fx p s m args meth c b mL y.cls (some .long) → B s → (∀ {H : Heap} {locs : List Loc} {ls : Array Slot} {pc : Nat} {x : Int64} (u : S), wi D z (Ar z) (ws' u) s H locs → decode b pc = .ok (.lreturn, 1) → post x u → W p l e (rmv fr lo) s m args below meth c H locs 0 0 Q (F0 m pc ls [.long x])) → ∀ ls : Array Slot, lv_has ls mL (lv_args 0 av) → W p l e (rmv fr lo) s m args below meth c s.heap [] 0 0 Q (F0 m 0 ls [])) : mlM l y b mL (some .long) fr lo av B D z ws' post :=
  bd hy hle (fun p e s m below meth c F hB ls hl => body p e s m _ below meth c _ F hB (fun u hI hdg hp => r_ml F u hI hdg hp) ls hl)
theorem bd_mv {post : S → Prop} (hy : plainName y.cls = true) (hle : (lg_sl av).length ≤ mL) (body : ∀ (p : Program) (e : Env) (s : State) (m : MethodId) (args : Array Value) (below : List Frame) (meth : Method) (c : Code) (Q : State → Prop), Fx p s m args meth c b mL y.cls none → B s → (∀ {H : Heap} {locs : List Loc} {ls : Array Slot} {pc : Nat} (u : S), wi D z (Ar z) (ws' u) s H locs → decode b pc = .ok (.return_, 1) → post u → W p l e (rmv fr lo) s m args below meth c H locs 0 0 Q (F0 m pc ls [])) → ∀ ls : Array Slot, lv_has ls mL (lv_args 0 av) → W p l e (rmv fr lo) s m args below meth c s.heap [] 0 0 Q (F0 m 0 ls [])) : mvM l y b mL fr lo av B D z ws' post :=
  bd hy hle (fun p e s m below meth c F hB ls hl => body p e s m _ below meth c _ F hB (fun u hI hdg hp => r_mv F u hI hdg hp) ls hl)
end BODY
/-- the class's cells: 0 TwoTimesTable, 1 States, 2 values, 3 filled, 4 rowsBegun, 5 Waiting, 6 words -/
def cw (a : Nat → Nat) (cI : ClassId) (vals fil rb : Nat → Int32) (pr : Int32) (wo : Nat → Int32) (cnt fn : Int32) (X : va_W) : va_W := [(a 0, .inr (2, [.ref (a 1), .ref (a 5), .int fn])), (a 1, .inr (0, [.ref (a 2), .ref (a 3), .ref (a 4), .int pr])), (a 2, .inl (cI, 5248, .inl vals)), (a 3, .inl (cI, 164, .inl fil)), (a 4, .inl (cI, 160, .inl rb)), (a 5, .inr (1, [.ref (a 6), .int cnt])), (a 6, .inl (cI, 40, .inl wo))] ++ X
/-- a row of booleans -/
abbrev bf (tb : Nat → Bool) : Nat → Int32 := fun k => bi (tb k)
def updB (tb : Nat → Bool) (k : Nat) (q : Bool) : Nat → Bool := fun j => if j = k then q else tb j
theorem upd_bf (tb : Nat → Bool) (k : Nat) (q : Bool) : upd (bf tb) k (bi q) = bf (updB tb k q) := by
  funext j
  by_cases h : j = k
  · simp [upd, bf, updB, h]
  · simp [upd, bf, updB, h]
/-- the reference's cells: 0 TwoTimesTableModel, 1 there, 2 values, 3 keptThere, 4 keptValues, 5 waiting -/
def mw (b : Nat → Nat) (cI cZ : ClassId) (ck : Int32) (th : Nat → Bool) (vs : Nat → Int32) (kt : Nat → Bool) (kv : Nat → Int32) (wt : Int32) (wa : Nat → Int32) (fl tr ch : Int32) (X : va_W) : va_W := [(b 0, .inr (3, [.int ck, .ref (b 1), .ref (b 2), .ref (b 3), .ref (b 4), .int wt, .ref (b 5), .int fl, .int tr, .int ch])), (b 1, .inl (cZ, 5120, .inl (bf th))), (b 2, .inl (cI, 5120, .inl vs)), (b 3, .inl (cZ, 128, .inl (bf kt))), (b 4, .inl (cI, 128, .inl kv)), (b 5, .inl (cI, 40, .inl wa))] ++ X
section MORE
variable {p : Program} {l : Launch} {e : Env} {R : Room} {s : State} {m : MethodId} {args : Array Value} {below : List Frame} {meth : Method} {c : Code} {H : Heap} {locs : List Loc} {cells slots : Nat} {Q : State → Prop}
variable {cc : ByteArray} {rest st : List Value} {pc : Nat} {ls : Array Slot} {D : va_G} {cI cZ cJ : ClassId} {z : Nat} {A : Nat → Prop} {ws : va_W}
theorem zb_ld (hx : p.tables.exec = Jvm.exec) (hb : c.code = cc) (hK : kn D cI cZ cJ s) (hI : wi D z A ws s H locs) (q0 : Nat) {a k N : Nat} {f : Nat → Bool} (ha : ws[q0]? = some (a, .inl (cZ, N, .inl (bf f)))) (hdg : decode cc pc = .ok (.baload, 1)) (hk : k < N) (hN : N < 2 ^ 31) (kk : W p l e R s m args below meth c H locs cells slots Q (F0 m (pc + 1) ls (.int (bi (f k)) :: rest))) : W p l e R s m args below meth c H locs cells slots Q (F0 m pc ls (.int (nI k) :: .ref a :: rest)) :=
  za_ld (f := bf f) hx hb hK hI q0 ha hdg hk hN kk
theorem zb_st (hx : p.tables.exec = Jvm.exec) (hb : c.code = cc) (hK : kn D cI cZ cJ s) (hI : wi D z (Ar z) ws s H locs) (q0 : Nat) {a k N : Nat} {f : Nat → Bool} {q : Bool} (ha : ws[q0]? = some (a, .inl (cZ, N, .inl (bf f)))) (hdg : decode cc pc = .ok (.bastore, 1)) (hk : k < N) (hN : N < 2 ^ 31) (kk : ∀ (H : Heap) (locs : List Loc), wi D z (Ar z) (ws.set q0 (a, .inl (cZ, N, .inl (bf (updB f k q))))) s H locs → W p l e R s m args below meth c H locs cells slots Q (F0 m (pc + 1) ls rest)) : W p l e R s m args below meth c H locs cells slots Q (F0 m pc ls (.int (bi q) :: .int (nI k) :: .ref a :: rest)) :=
  za_st (f := bf f) hx hb hK hI q0 ha hdg hk hN (fun H1 locs1 h => by rw [upd_bf] at h; exact kk H1 locs1 h)
/-- in a static method without a world -/
theorem k_roS {a' : Array Value} {v : Int32} (hr : va_Run p l e R s m args below meth c H locs cells slots 0 0 (F0 m pc ls st) rest (va_Qi (fun r (_ : Unit) => r = v) (fun _ _ => True) noA a') noA) (hI : va_S A s.heap H locs) (kk : ∀ (H : Heap) (locs : List Loc), va_S A s.heap H locs → W p l e R s m args below meth c H locs cells slots Q (F0 m (pc + 3) ls (.int v :: rest))) : W p l e R s m args below meth c H locs cells slots Q (F0 m pc ls st) :=
  va_calli hr hI (fun q _ h => h.elim) (fun q h => h.elim) (fun r u t H1 locs1 ht hvm hw hB hz hk hS => by subst hw; exact kk H1 locs1 hS)
end MORE
theorem ofInt_nat (n : Nat) : Int32.ofInt (n : Int) = nI n := by
  show Int32.ofInt (n : Int) = Int32.ofNat n
  first | rfl | simp | (apply Int32.toBitVec_inj.mp; simp)
theorem inc_n (x n : Nat) : nI x + Int32.ofInt (n : Int) = nI (x + n) := by rw [ofInt_nat, nI_add]
theorem dec_n {x n : Nat} (h : n ≤ x) : nI x + Int32.ofInt (-(n : Int)) = nI (x - n) := by
  rw [← pk_sub h, ← ofInt_nat n, Int32.sub_eq_add_neg]
  congr 1
  first | exact Int32.ofInt_neg _ | simp
end
section
/-! PURE: a state of all times: slot (4 * time + key), day -> a value or nothing -/
abbrev Sta := Nat → Nat → Option Int32
/-- the day goes on with the run of the day before -/
def con (S : Sta) (sl dy : Nat) : Bool := decide (dy ≠ 0) && ((S sl dy).isSome && decide (S sl (dy - 1) = S sl dy))
def beg (S : Sta) (sl dy : Nat) : Bool := (S sl dy).isSome && !(con S sl dy)
def finF (S : Sta) (sl : Nat) : Nat → Nat → Nat
  | 0, x => x
  | n + 1, x => if con S sl x = true then finF S sl n (x + 1) else x
def rend (S : Sta) (sl dy : Nat) : Nat := finF S sl (31 - dy) (dy + 1)
def shr (S : Sta) (sl so dy : Nat) : Bool := beg S so dy && (decide (S so dy = S sl dy) && decide (rend S so dy = rend S sl dy))
def isRw (S : Sta) (sl dy : Nat) : Bool := beg S sl dy && (decide (sl < 4) || !(shr S sl (sl - 4) dy))
def rowsIn (S : Sta) (sl : Nat) : Nat := fb_ct (isRw S sl) 32
def rowsTo (S : Sta) (n : Nat) : Nat := fb_sm (rowsIn S) n
/-- the class's arrays hold S up to the time t -/
def cAbs (S : Sta) (vals fil : Nat → Int32) (t : Nat) : Prop := ∀ sl dy, sl < 4 * (t + 1) → dy < 32 → S sl dy = if bt (fil sl) dy = true then some (vals (sl * 32 + dy)) else none
/-- the reference's arrays hold S up to the time t -/
def mAbs (S : Sta) (th : Nat → Bool) (vs : Nat → Int32) (t : Nat) : Prop := ∀ tm ky dy, tm ≤ t → ky < 4 → dy < 32 → S (tm * 4 + ky) dy = if th (128 * tm + 32 * ky + dy) = true then some (vs (128 * tm + 32 * ky + dy)) else none
theorem bt_u (x : Int32) (k : Nat) (hk : k < 32) (i : Nat) : bt (((x).toUInt32 >>> ((nI k).toUInt32 &&& Int32.toUInt32 31)).toInt32) i = bt x (k + i) := b_ushr k hk x i
theorem bt_1 (i : Nat) (h : i < 32) : bt (nI 1) i = decide (i = 0) := by
  have : ∀ i, i < 32 → bt (nI 1) i = decide (i = 0) := by decide
  exact this i h
theorem bt_3 (i : Nat) (h : i < 32) : bt (nI 3) i = decide (i < 2) := by
  have : ∀ i, i < 32 → bt (nI 3) i = decide (i < 2) := by decide
  exact this i h
theorem bit1 (x : Int32) {k : Nat} (hk : k < 32) : (((x).toUInt32 >>> ((nI k).toUInt32 &&& Int32.toUInt32 31)).toInt32 &&& nI 1 = 0) ↔ bt x k = false := by
  constructor
  · intro h
    have := congrArg (fun w => bt w 0) h
    simp only [b_and, bt_u x k hk, b_0, bt_1 0 (by decide)] at this
    simpa using this
  · intro h
    refine b_ext (fun i hi => ?_)
    rw [b_and, bt_u x k hk, b_0, bt_1 i hi]
    by_cases h0 : i = 0
    · subst h0; simp [h]
    · simp [h0]
theorem bit2 (x : Int32) {k : Nat} (hk : k < 31) : (((x).toUInt32 >>> ((nI k).toUInt32 &&& Int32.toUInt32 31)).toInt32 &&& nI 3 = nI 3) ↔ (bt x k = true ∧ bt x (k + 1) = true) := by
  constructor
  · intro h
    have h0 := congrArg (fun w => bt w 0) h
    have h1 := congrArg (fun w => bt w 1) h
    simp only [b_and, bt_u x k (by omega), bt_3 0 (by decide), bt_3 1 (by decide)] at h0 h1
    simp at h0 h1
    exact ⟨h0, h1⟩
  · intro h
    refine b_ext (fun i hi => ?_)
    rw [b_and, bt_u x k (by omega), bt_3 i hi]
    by_cases h2 : i < 2
    · rcases (show i = 0 ∨ i = 1 by omega) with rfl | rfl
      · simp [h.1]
      · simp [h.2]
    · simp [h2]
section PU
variable {S : Sta} {vals fil : Nat → Int32} {t sl so dy : Nat}
theorem has_c (hA : cAbs S vals fil t) (h1 : sl < 4 * (t + 1)) (h2 : dy < 32) : (S sl dy).isSome = bt (fil sl) dy := by
  rw [hA sl dy h1 h2]
  cases bt (fil sl) dy <;> simp
theorem val_c (hA : cAbs S vals fil t) (h1 : sl < 4 * (t + 1)) (h2 : dy < 32) (h : (S sl dy).isSome = true) : S sl dy = some (vals (sl * 32 + dy)) := by
  have h3 := has_c hA h1 h2
  rw [h] at h3
  rw [hA sl dy h1 h2, if_pos h3.symm]
theorem con_c (hA : cAbs S vals fil t) (h1 : sl < 4 * (t + 1)) (h2 : dy < 32) : con S sl dy = (decide (dy ≠ 0) && ((bt (fil sl) (dy - 1) && bt (fil sl) dy) && decide (vals (sl * 32 + dy) = vals (sl * 32 + dy - 1)))) := by
  unfold con
  by_cases h0 : dy = 0
  · simp [h0]
  · rw [hA sl dy h1 h2, hA sl (dy - 1) h1 (by omega)]
    have e : sl * 32 + (dy - 1) = sl * 32 + dy - 1 := by omega
    rw [e]
    cases bt (fil sl) (dy - 1) <;> cases bt (fil sl) dy <;> simp [h0]
    exact eq_comm
theorem beg_some (h : beg S sl dy = true) : (S sl dy).isSome = true := by
  unfold beg at h
  simp only [Bool.and_eq_true] at h
  exact h.1
theorem finF_le : ∀ (n x : Nat), x ≤ finF S sl n x ∧ finF S sl n x ≤ x + n
  | 0, x => by simp [finF]
  | n + 1, x => by
    unfold finF
    have := finF_le n (x + 1)
    split <;> omega
theorem rend_in (h : dy < 32) : dy < rend S sl dy ∧ rend S sl dy ≤ 32 := by
  have := finF_le (S := S) (sl := sl) (31 - dy) (dy + 1)
  unfold rend
  omega
theorem fin_go {x : Nat} (hx : x < 32) (h : con S sl x = true) : finF S sl (32 - x) x = finF S sl (32 - (x + 1)) (x + 1) := by
  rw [show 32 - x = (32 - (x + 1)) + 1 by omega, finF, if_pos h]
theorem fin_no {x : Nat} (h : con S sl x = false) : ∀ n, finF S sl n x = x
  | 0 => rfl
  | n + 1 => by rw [finF, if_neg (by rw [h]; exact Bool.false_ne_true)]
theorem rend_eq (h : dy < 32) : rend S sl dy = finF S sl (32 - (dy + 1)) (dy + 1) := by
  unfold rend
  rw [show 31 - dy = 32 - (dy + 1) by omega]
end PU
section PU2
variable {S : Sta} {vals fil : Nat → Int32} {t sl so dy : Nat}
theorem con_f1 (h : dy = 0) : con S sl dy = false := by simp [con, h]
theorem con_f2 (hA : cAbs S vals fil t) (h1 : sl < 4 * (t + 1)) (h2 : dy < 32) (c1 : ¬ dy = 0) (c17 : ¬ (((fil sl).toUInt32 >>> ((nI (dy - 1)).toUInt32 &&& Int32.toUInt32 31)).toInt32 &&& nI 3 = nI 3)) : con S sl dy = false := by
  rw [bit2 (fil sl) (k := dy - 1) (by omega), show dy - 1 + 1 = dy by omega] at c17
  rw [con_c hA h1 h2]
  cases h8 : bt (fil sl) (dy - 1) <;> cases h9 : bt (fil sl) dy <;> simp_all
theorem con_43 (hA : cAbs S vals fil t) (h1 : sl < 4 * (t + 1)) (h2 : dy < 32) (c1 : ¬ dy = 0) (c17 : ((fil sl).toUInt32 >>> ((nI (dy - 1)).toUInt32 &&& Int32.toUInt32 31)).toInt32 &&& nI 3 = nI 3) : con S sl dy = decide (vals (sl * 32 + dy) = vals (sl * 32 + dy - 1)) := by
  rw [bit2 (fil sl) (k := dy - 1) (by omega), show dy - 1 + 1 = dy by omega] at c17
  rw [con_c hA h1 h2, c17.1, c17.2]
  simp [c1]
end PU2
theorem nf {x : Bool} (h : ¬ x = false) : x = true := by cases x; exact absurd rfl h; rfl
theorem q_lt0 (x : Int32) : x < 0 ↔ x.toInt < 0 := fa_lt x 0
theorem q_le (n : Nat) (h : n < 2 ^ 31) (x : Int32) : nI n ≤ x ↔ (n : Int) ≤ x.toInt := by rw [fa_le, nI_toInt h]
theorem q_lt (n : Nat) (h : n < 2 ^ 31) (x : Int32) : nI n < x ↔ (n : Int) < x.toInt := by rw [fa_lt, nI_toInt h]
theorem q_xle (n : Nat) (h : n < 2 ^ 31) (x : Int32) : x ≤ nI n ↔ x.toInt ≤ (n : Int) := by rw [fa_le, nI_toInt h]
theorem q_xlt (n : Nat) (h : n < 2 ^ 31) (x : Int32) : x < nI n ↔ x.toInt < (n : Int) := by rw [fa_lt, nI_toInt h]
theorem q_le4 (x : Int32) : nI 4 ≤ x ↔ 4 ≤ x.toInt := q_le 4 (by decide) x
theorem q_lt4 (x : Int32) : nI 4 < x ↔ 4 < x.toInt := q_lt 4 (by decide) x
theorem q_lt3 (x : Int32) : nI 3 < x ↔ 3 < x.toInt := q_lt 3 (by decide) x
theorem q_lt2 (x : Int32) : nI 2 < x ↔ 2 < x.toInt := q_lt 2 (by decide) x
theorem q_lt5 (x : Int32) : nI 5 < x ↔ 5 < x.toInt := q_lt 5 (by decide) x
theorem q_lt12 (x : Int32) : nI 12 < x ↔ 12 < x.toInt := q_lt 12 (by decide) x
theorem q_le32 (x : Int32) : nI 32 ≤ x ↔ 32 ≤ x.toInt := q_le 32 (by decide) x
theorem q_lt32 (x : Int32) : nI 32 < x ↔ 32 < x.toInt := q_lt 32 (by decide) x
theorem q_lt31 (x : Int32) : nI 31 < x ↔ 31 < x.toInt := q_lt 31 (by decide) x
def okK (x : Int32) : Bool := decide (0 ≤ x.toInt ∧ x.toInt < 4)
def okD (x : Int32) : Bool := decide (0 ≤ x.toInt ∧ x.toInt < 32)
def okP (x y : Int32) : Bool := decide (0 ≤ x.toInt ∧ x.toInt < y.toInt ∧ y.toInt ≤ 32)
def okT (t : Nat) (x : Int32) : Bool := decide (0 ≤ x.toInt ∧ x.toInt ≤ (t : Int))
theorem nI_ofInt {x : Int32} {n : Nat} (h : x.toInt = (n : Int)) : x = nI n := by
  have h2 := fb_rng x
  rw [fa_eq, nI_toInt (by omega)]
  exact h
theorem nat_of {x : Int32} (h : 0 ≤ x.toInt) : ∃ n : Nat, x = nI n ∧ x.toInt = (n : Int) := ⟨x.toInt.toNat, nI_ofInt (by omega), by omega⟩
theorem okK_n {x : Int32} (h : okK x = true) : ∃ n, n < 4 ∧ x = nI n := by
  have h := of_decide_eq_true h
  obtain ⟨n, e, h2⟩ := nat_of h.1
  exact ⟨n, by omega, e⟩
theorem okD_n {x : Int32} (h : okD x = true) : ∃ n, n < 32 ∧ x = nI n := by
  have h := of_decide_eq_true h
  obtain ⟨n, e, h2⟩ := nat_of h.1
  exact ⟨n, by omega, e⟩
theorem okT_n {t : Nat} {x : Int32} (h : okT t x = true) : ∃ n, n ≤ t ∧ x = nI n := by
  have h := of_decide_eq_true h
  obtain ⟨n, e, h2⟩ := nat_of h.1
  exact ⟨n, by omega, e⟩
theorem okP_n {x y : Int32} (h : okP x y = true) : ∃ n k, n < k ∧ k ≤ 32 ∧ x = nI n ∧ y = nI k := by
  have h := of_decide_eq_true h
  obtain ⟨n, e, h2⟩ := nat_of h.1
  obtain ⟨k, e2, h3⟩ := nat_of (show 0 ≤ y.toInt by omega)
  exact ⟨n, k, by omega, by omega, e, e2⟩
section PU3
variable {S : Sta} {vals fil : Nat → Int32} {t sl so dy : Nat}
theorem shr_v (hA : cAbs S vals fil t) (h1 : sl < 4 * (t + 1)) (h3 : so < 4 * (t + 1)) (h2 : dy < 32) (hs : (S sl dy).isSome = true) (hb : beg S so dy = true) : (S so dy = S sl dy) ↔ vals (so * 32 + dy) = vals (sl * 32 + dy) := by
  rw [val_c hA h1 h2 hs, val_c hA h3 h2 (beg_some hb)]
  simp
def endF (S : Sta) (sl ky dy : Nat) : Nat → Nat → Int32
  | 0, _ => -1
  | n + 1, x => if shr S sl (x * 4 + ky) dy = true then endF S sl ky dy n (x + 1) else nI x
def endV (S : Sta) (t tm ky dy : Nat) : Int32 := endF S (tm * 4 + ky) ky dy (t - tm) (tm + 1)
theorem end_go {ky x : Nat} (hx : x ≤ t) (h : shr S sl (x * 4 + ky) dy = true) : endF S sl ky dy (t + 1 - x) x = endF S sl ky dy (t + 1 - (x + 1)) (x + 1) := by
  rw [show t + 1 - x = (t + 1 - (x + 1)) + 1 by omega, endF, if_pos h]
theorem end_no {ky x : Nat} (hx : x ≤ t) (h : shr S sl (x * 4 + ky) dy = false) : endF S sl ky dy (t + 1 - x) x = nI x := by
  rw [show t + 1 - x = (t - x) + 1 by omega, endF, if_neg (by rw [h]; exact Bool.false_ne_true)]
theorem rowsIn_le : rowsIn S sl ≤ 32 := fb_ct_le _ _
theorem rowsTo_le (n : Nat) : rowsTo S n ≤ n * 32 := fb_sm_bound (fun _ _ => rowsIn_le)
end PU3
def fwdI (fa fb fc fd : Nat) : Int32 := if fb ≤ fc then (if fb < fc then nI 0 else nI 1) else if fa < fc then (if fb < fd then nI 2 else -1) else if fb < fd then (if fa = fc then nI 3 else nI 4) else if fb = fd then (if fc < fa then nI 5 else nI 6) else -1
def rel (fa fb fc fd : Nat) : Nat := if fb < fc then 0 else if fb = fc then 1 else if fa < fc then (if fb < fd then 2 else if fb = fd then 7 else 8) else if fa = fc then (if fb < fd then 3 else if fb = fd then 6 else 9) else (if fb < fd then 4 else if fb = fd then 5 else if fd < fa then 12 else if fd = fa then 11 else 10)
theorem rel_le (fa fb fc fd : Nat) : rel fa fb fc fd ≤ 12 := by
  unfold rel
  repeat' split
  all_goals omega
theorem rel_f {fa fb fc fd : Nat} (hn : ¬ fwdI fa fb fc fd = -1) : fwdI fa fb fc fd = nI (rel fa fb fc fd) := by
  unfold fwdI at *
  unfold rel
  repeat' split at hn
  all_goals first | exact absurd rfl hn | skip
  all_goals (repeat' split)
  all_goals first | rfl | omega
theorem rel_b {fa fb fc fd : Nat} (h1 : fa < fb) (h2 : fc < fd) (hn : fwdI fa fb fc fd = -1) : nI 12 - fwdI fc fd fa fb = nI (rel fa fb fc fd) := by
  have key : ¬ fb ≤ fc ∧ ((fa < fc ∧ ¬ fb < fd) ∨ (¬ fa < fc ∧ ¬ fb < fd ∧ ¬ fb = fd)) := by
    unfold fwdI at hn
    repeat' split at hn
    all_goals first | exact absurd hn (by decide) | omega
  unfold fwdI rel
  obtain ⟨k1, k2⟩ := key
  rcases k2 with ⟨k2, k3⟩ | ⟨k2, k3, k4⟩
  · repeat' split
    all_goals first | rfl | omega
  · repeat' split
    all_goals first | rfl | omega
theorem bi_inj {x y : Bool} (h : bi x = bi y) : x = y := by
  cases x <;> cases y <;> first | rfl | exact absurd h (by decide)
section PU4
variable {S : Sta} {vals fil : Nat → Int32} {t sl so dy : Nat}
theorem dif_1 (c : ¬ bi (S sl dy).isSome = bi (S so dy).isSome) : (!(decide (S sl dy = S so dy))) = true := by
  have : ¬ S sl dy = S so dy := fun q => c (by rw [q])
  simp [this]
theorem dif_2 (hA : cAbs S vals fil t) (h1 : sl < 4 * (t + 1)) (h3 : so < 4 * (t + 1)) (h2 : dy < 32) (c : (S sl dy).isSome = (S so dy).isSome) (c2 : (S sl dy).isSome = true) (c3 : vals (sl * 32 + dy) = vals (so * 32 + dy)) : (!(decide (S sl dy = S so dy))) = false := by
  rw [val_c hA h1 h2 c2, val_c hA h3 h2 (c ▸ c2), c3]
  simp
theorem dif_3 (hA : cAbs S vals fil t) (h1 : sl < 4 * (t + 1)) (h3 : so < 4 * (t + 1)) (h2 : dy < 32) (c : (S sl dy).isSome = (S so dy).isSome) (c2 : (S sl dy).isSome = true) (c3 : ¬ vals (sl * 32 + dy) = vals (so * 32 + dy)) : (!(decide (S sl dy = S so dy))) = true := by
  rw [val_c hA h1 h2 c2, val_c hA h3 h2 (c ▸ c2)]
  simp [c3]
theorem dif_4 (c : (S sl dy).isSome = (S so dy).isSome) (c2 : (S sl dy).isSome = false) : (!(decide (S sl dy = S so dy))) = false := by
  rw [c2] at c
  have e1 : S sl dy = none := by simpa using c2
  have e2 : S so dy = none := by simpa using c.symm
  simp [e1, e2]
end PU4
/-- a part of a row -/
def rowV (S : Sta) (t tm ky dy pt : Nat) : Int32 := if pt = 0 then nI ky else if pt = 1 then (S (tm * 4 + ky) dy).getD 0 else if pt = 2 then nI dy else if pt = 3 then nI (rend S (tm * 4 + ky) dy) else if pt = 4 then nI tm else endV S t tm ky dy
def rowsK (S : Sta) (t y : Nat) : Nat := fb_sm (fun w => rowsIn S (w * 4 + y)) (t + 1)
/-- the number of the row of the key ky that begins at the time tm with the day i -/
def rowAt (S : Sta) (t ky tm i : Nat) : Nat := fb_sm (rowsK S t) ky + fb_sm (fun w => rowsIn S (w * 4 + ky)) tm + fb_ct (isRw S (tm * 4 + ky)) i
section PU5
variable {S : Sta} {t ky tm i x y k n3 : Nat}
theorem isRw_beg {sl dy : Nat} (h : isRw S sl dy = true) : beg S sl dy = true := by
  unfold isRw at h
  simp only [Bool.and_eq_true] at h
  exact h.1
theorem sm_mono (f : Nat → Nat) {a b : Nat} (h : a ≤ b) : fb_sm f a ≤ fb_sm f b := by
  have := fb_sm_mono f a (b - a)
  rwa [Nat.add_sub_cancel' h] at this
theorem rowsK_le : rowsK S t y ≤ (t + 1) * 32 := fb_sm_bound (fun _ _ => rowsIn_le)
theorem rowAt_le (h3 : ky < 4) (h4 : tm ≤ t) (h5 : i < 32) : rowAt S t ky tm i ≤ 3 * ((t + 1) * 32) + t * 32 + 32 := by
  have g1 : fb_sm (rowsK S t) ky ≤ ky * ((t + 1) * 32) := fb_sm_bound (fun _ _ => rowsK_le)
  have g2 : fb_sm (fun w => rowsIn S (w * 4 + ky)) tm ≤ tm * 32 := fb_sm_bound (fun _ _ => rowsIn_le)
  have g3 := fb_ct_le (isRw S (tm * 4 + ky)) i
  have g4 : ky * ((t + 1) * 32) ≤ 3 * ((t + 1) * 32) := Nat.mul_le_mul_right _ (by omega)
  unfold rowAt
  omega
theorem row_here (h4 : tm ≤ t) (hlex : y < ky ∨ (y = ky ∧ x ≤ tm)) (hn : n3 + fb_sm (rowsK S t) y + fb_sm (fun w => rowsIn S (w * 4 + y)) x = k) (hk : k = rowAt S t ky tm i) (c : n3 < rowsIn S (x * 4 + y)) (hx1 : x ≤ t := by omega) : y = ky ∧ x = tm := by
  have g1 : fb_sm (fun w => rowsIn S (w * 4 + y)) (x + 1) ≤ rowsK S t y := sm_mono _ (by omega)
  rw [fb_sm_succ] at g1
  have g1 : fb_sm (fun w => rowsIn S (w * 4 + y)) x + rowsIn S (x * 4 + y) ≤ rowsK S t y := g1
  unfold rowAt at hk
  rcases hlex with h | ⟨h, h2⟩
  · have g2 : fb_sm (rowsK S t) (y + 1) ≤ fb_sm (rowsK S t) ky := sm_mono _ h
    rw [fb_sm_succ] at g2
    omega
  · subst h
    rcases Nat.lt_or_ge x tm with q | q
    · have g2 : fb_sm (fun w => rowsIn S (w * 4 + y)) (x + 1) ≤ fb_sm (fun w => rowsIn S (w * 4 + y)) tm := sm_mono _ q
      rw [fb_sm_succ] at g2
      have g2 : fb_sm (fun w => rowsIn S (w * 4 + y)) x + rowsIn S (x * 4 + y) ≤ fb_sm (fun w => rowsIn S (w * 4 + y)) tm := g2
      omega
    · exact ⟨rfl, by omega⟩
theorem row_past (h5 : i < 32) (hrw : isRw S (tm * 4 + ky) i = true) (hn : n3 + fb_sm (rowsK S t) y + fb_sm (fun w => rowsIn S (w * 4 + y)) x = k) (hk : k = rowAt S t ky tm i) (c : rowsIn S (x * 4 + y) ≤ n3) : ¬ (y = ky ∧ x = tm) := by
  rintro ⟨rfl, rfl⟩
  unfold rowAt at hk
  have g1 : fb_ct (isRw S (x * 4 + y)) (i + 1) ≤ rowsIn S (x * 4 + y) := fb_ct_mono _ (by omega)
  rw [fb_ct_succ, hrw] at g1
  simp at g1
  omega
end PU5
end
section
theorem cf_X0_goOn : cfV yX0_goOn cX0_goOn 1 none 0 := ⟨k186, k184, k185, k2, ⟨by decide +kernel, by decide +kernel⟩, by decide +kernel⟩
theorem cf_X0_save : cfV yX0_save cX0_save 1 none 0 := ⟨k206, k204, k205, k2, ⟨by decide +kernel, by decide +kernel⟩, by decide +kernel⟩
theorem cf_X0_restore : cfV yX0_restore cX0_restore 2 none 0 := ⟨k256, k254, k255, k2, ⟨by decide +kernel, by decide +kernel⟩, by decide +kernel⟩
theorem cf_X0_copyState : cfV yX0_copyState cX0_copyState 3 none 2 := ⟨k190, k189, s2, k2, ⟨by decide +kernel, by decide +kernel⟩, by decide +kernel⟩
theorem cf_X0_perform : cfV yX0_perform cX0_perform 10 (some .int) 5 := ⟨k210, k208, k209, k2, ⟨by decide +kernel, by decide +kernel⟩, by decide +kernel⟩
theorem cf_X0_maskOf : cfS yX0_maskOf cX0_maskOf 2 (some .int) 2 := ⟨k218, k217, k2, ⟨by decide +kernel, by decide +kernel⟩, by decide +kernel⟩
theorem cf_X0_changeDay : cfV yX0_changeDay cX0_changeDay 9 (some .boolean) 4 := ⟨k222, k221, s3, k2, ⟨by decide +kernel, by decide +kernel⟩, by decide +kernel⟩
theorem cf_X0_isFilled : cfV yX0_isFilled cX0_isFilled 3 (some .boolean) 2 := ⟨k102, k100, k101, k2, ⟨by decide +kernel, by decide +kernel⟩, by decide +kernel⟩
theorem cf_X0_valueOn : cfV yX0_valueOn cX0_valueOn 3 (some .int) 2 := ⟨k247, k245, k246, k2, ⟨by decide +kernel, by decide +kernel⟩, by decide +kernel⟩
theorem cf_X0_differ : cfV yX0_differ cX0_differ 5 (some .boolean) 3 := ⟨k389, k387, k388, k2, ⟨by decide +kernel, by decide +kernel⟩, by decide +kernel⟩
theorem cf_X0_startsRun : cfV yX0_startsRun cX0_startsRun 3 (some .boolean) 2 := ⟨k235, k233, k234, k2, ⟨by decide +kernel, by decide +kernel⟩, by decide +kernel⟩
theorem cf_X0_continuesRun : cfV yX0_continuesRun cX0_continuesRun 4 (some .boolean) 2 := ⟨k239, k238, s6, k2, ⟨by decide +kernel, by decide +kernel⟩, by decide +kernel⟩
theorem cf_X0_runEnd : cfV yX0_runEnd cX0_runEnd 4 (some .int) 2 := ⟨k251, k249, k250, k2, ⟨by decide +kernel, by decide +kernel⟩, by decide +kernel⟩
theorem cf_X0_countRuns : cfV yX0_countRuns cX0_countRuns 4 (some .int) 1 := ⟨k327, k325, k326, k2, ⟨by decide +kernel, by decide +kernel⟩, by decide +kernel⟩
theorem cf_X0_runStart : cfV yX0_runStart cX0_runStart 5 (some .int) 2 := ⟨k354, k352, k353, k2, ⟨by decide +kernel, by decide +kernel⟩, by decide +kernel⟩
theorem cf_X0_countRelated : cfV yX0_countRelated cX0_countRelated 7 (some .int) 4 := ⟨k414, k412, k413, k2, ⟨by decide +kernel, by decide +kernel⟩, by decide +kernel⟩
theorem cf_X0_countRows : cfV yX0_countRows cX0_countRows 3 (some .int) 0 := ⟨k110, k108, k109, k2, ⟨by decide +kernel, by decide +kernel⟩, by decide +kernel⟩
theorem cf_X0_recountRows : cfV yX0_recountRows cX0_recountRows 5 none 1 := ⟨k227, k226, s4, k2, ⟨by decide +kernel, by decide +kernel⟩, by decide +kernel⟩
theorem cf_X0_startsRow : cfV yX0_startsRow cX0_startsRow 3 (some .boolean) 2 := ⟨k231, k230, s5, k2, ⟨by decide +kernel, by decide +kernel⟩, by decide +kernel⟩
theorem cf_X0_sharesRun : cfV yX0_sharesRun cX0_sharesRun 4 (some .boolean) 3 := ⟨k243, k242, s7, k2, ⟨by decide +kernel, by decide +kernel⟩, by decide +kernel⟩
theorem cf_X0_rowPart : cfV yX0_rowPart cX0_rowPart 7 (some .int) 2 := ⟨k366, k364, k365, k2, ⟨by decide +kernel, by decide +kernel⟩, by decide +kernel⟩
theorem cf_X0_rowStart : cfV yX0_rowStart cX0_rowStart 5 (some .int) 2 := ⟨k370, k369, s8, k2, ⟨by decide +kernel, by decide +kernel⟩, by decide +kernel⟩
theorem cf_X0_partOfRow : cfV yX0_partOfRow cX0_partOfRow 6 (some .int) 4 := ⟨k374, k373, s9, k2, ⟨by decide +kernel, by decide +kernel⟩, by decide +kernel⟩
theorem cf_X0_rowEnd : cfV yX0_rowEnd cX0_rowEnd 6 (some .int) 3 := ⟨k378, k377, s10, k2, ⟨by decide +kernel, by decide +kernel⟩, by decide +kernel⟩
theorem cf_X1_append : cfV yX1_append cX1_append 7 (some .boolean) 5 := ⟨k77, k75, k76, k3, ⟨by decide +kernel, by decide +kernel⟩, by decide +kernel⟩
theorem cf_X1_word : cfV yX1_word cX1_word 3 (some .int) 2 := ⟨k300, k298, k299, k3, ⟨by decide +kernel, by decide +kernel⟩, by decide +kernel⟩
theorem cf_X2_tick : cfV yX2_tick cX2_tick 1 (some .int) 0 := ⟨k118, k116, k117, k1, ⟨by decide +kernel, by decide +kernel⟩, by decide +kernel⟩
theorem cf_X2_clock : cfV yX2_clock cX2_clock 1 (some .int) 0 := ⟨k69, k67, k68, k1, ⟨by decide +kernel, by decide +kernel⟩, by decide +kernel⟩
theorem cf_X2_state : cfV yX2_state cX2_state 7 (some .int) 5 := ⟨k202, k200, k201, k1, ⟨by decide +kernel, by decide +kernel⟩, by decide +kernel⟩
theorem cf_X2_queue : cfV yX2_queue cX2_queue 6 (some .boolean) 5 := ⟨k73, k71, k72, k1, ⟨by decide +kernel, by decide +kernel⟩, by decide +kernel⟩
theorem cf_X2_commit : cfV yX2_commit cX2_commit 5 (some .int) 0 := ⟨k296, k294, k295, k1, ⟨by decide +kernel, by decide +kernel⟩, by decide +kernel⟩
theorem cf_X2_failed : cfV yX2_failed cX2_failed 1 (some .int) 0 := ⟨k81, k79, k80, k1, ⟨by decide +kernel, by decide +kernel⟩, by decide +kernel⟩
theorem cf_X2_value : cfV yX2_value cX2_value 5 (some .int) 3 := ⟨k307, k305, k306, k1, ⟨by decide +kernel, by decide +kernel⟩, by decide +kernel⟩
theorem cf_X2_has : cfV yX2_has cX2_has 4 (some .boolean) 3 := ⟨k85, k83, k84, k1, ⟨by decide +kernel, by decide +kernel⟩, by decide +kernel⟩
theorem cf_X2_sum : cfV yX2_sum cX2_sum 9 (some .long) 4 := ⟨k315, k313, k314, k1, ⟨by decide +kernel, by decide +kernel⟩, by decide +kernel⟩
theorem cf_X2_runs : cfV yX2_runs cX2_runs 3 (some .int) 2 := ⟨k323, k321, k322, k1, ⟨by decide +kernel, by decide +kernel⟩, by decide +kernel⟩
theorem cf_X2_run : cfV yX2_run cX2_run 7 (some .int) 4 := ⟨k335, k333, k334, k1, ⟨by decide +kernel, by decide +kernel⟩, by decide +kernel⟩
theorem cf_X2_rows : cfV yX2_rows cX2_rows 1 (some .int) 0 := ⟨k106, k104, k105, k1, ⟨by decide +kernel, by decide +kernel⟩, by decide +kernel⟩
theorem cf_X2_row : cfV yX2_row cX2_row 3 (some .int) 2 := ⟨k362, k360, k361, k1, ⟨by decide +kernel, by decide +kernel⟩, by decide +kernel⟩
theorem cf_X2_changes : cfV yX2_changes cX2_changes 5 (some .int) 2 := ⟨k385, k383, k384, k1, ⟨by decide +kernel, by decide +kernel⟩, by decide +kernel⟩
theorem cf_X2_relation : cfV yX2_relation cX2_relation 5 (some .int) 4 := ⟨k396, k394, k395, k1, ⟨by decide +kernel, by decide +kernel⟩, by decide +kernel⟩
theorem cf_X2_join : cfV yX2_join cX2_join 8 (some .int) 4 := ⟨k409, k407, k408, k1, ⟨by decide +kernel, by decide +kernel⟩, by decide +kernel⟩
theorem cf_X2_refuse : cfS yX2_refuse cX2_refuse 1 none 1 := ⟨k259, k258, k1, ⟨by decide +kernel, by decide +kernel⟩, by decide +kernel⟩
theorem cf_X2_isKey : cfS yX2_isKey cX2_isKey 1 (some .boolean) 1 := ⟨k88, k87, k1, ⟨by decide +kernel, by decide +kernel⟩, by decide +kernel⟩
theorem cf_X2_isDay : cfS yX2_isDay cX2_isDay 1 (some .boolean) 1 := ⟨k91, k90, k1, ⟨by decide +kernel, by decide +kernel⟩, by decide +kernel⟩
theorem cf_X2_isPeriod : cfS yX2_isPeriod cX2_isPeriod 2 (some .boolean) 2 := ⟨k214, k213, k1, ⟨by decide +kernel, by decide +kernel⟩, by decide +kernel⟩
theorem cf_X2_isTime : cfV yX2_isTime cX2_isTime 2 (some .boolean) 1 := ⟨k95, k94, s0, k1, ⟨by decide +kernel, by decide +kernel⟩, by decide +kernel⟩
theorem cf_X2_slotOf : cfS yX2_slotOf cX2_slotOf 2 (some .int) 2 := ⟨k98, k97, k1, ⟨by decide +kernel, by decide +kernel⟩, by decide +kernel⟩
theorem cf_X2_relationOf : cfS yX2_relationOf cX2_relationOf 5 (some .int) 4 := ⟨k399, k398, k1, ⟨by decide +kernel, by decide +kernel⟩, by decide +kernel⟩
theorem cf_X2_forwardRelation : cfS yX2_forwardRelation cX2_forwardRelation 4 (some .int) 4 := ⟨k402, k401, k1, ⟨by decide +kernel, by decide +kernel⟩, by decide +kernel⟩
theorem cf_X3_thrown : cfV yX3_thrown cX3_thrown 1 (some .int) 0 := ⟨k457, k455, k456, k4, ⟨by decide +kernel, by decide +kernel⟩, by decide +kernel⟩
theorem cf_X3_fail : cfV yX3_fail cX3_fail 2 (some .int) 1 := ⟨k465, k464, s11, k4, ⟨by decide +kernel, by decide +kernel⟩, by decide +kernel⟩
theorem cf_X3_isKey : cfS yX3_isKey cX3_isKey 1 (some .boolean) 1 := ⟨k484, k483, k4, ⟨by decide +kernel, by decide +kernel⟩, by decide +kernel⟩
theorem cf_X3_isPeriod : cfS yX3_isPeriod cX3_isPeriod 2 (some .boolean) 2 := ⟨k487, k486, k4, ⟨by decide +kernel, by decide +kernel⟩, by decide +kernel⟩
theorem cf_X3_isTime : cfV yX3_isTime cX3_isTime 2 (some .boolean) 1 := ⟨k549, k548, s23, k4, ⟨by decide +kernel, by decide +kernel⟩, by decide +kernel⟩
theorem cf_X3_place : cfS yX3_place cX3_place 3 (some .int) 3 := ⟨k494, k493, k4, ⟨by decide +kernel, by decide +kernel⟩, by decide +kernel⟩
theorem cf_X3_tick : cfV yX3_tick cX3_tick 2 (some .int) 0 := ⟨k461, k459, k460, k4, ⟨by decide +kernel, by decide +kernel⟩, by decide +kernel⟩
theorem cf_X3_clock : cfV yX3_clock cX3_clock 1 (some .int) 0 := ⟨k469, k467, k468, k4, ⟨by decide +kernel, by decide +kernel⟩, by decide +kernel⟩
theorem cf_X3_alike : cfV yX3_alike cX3_alike 7 (some .boolean) 4 := ⟨k514, k513, s19, k4, ⟨by decide +kernel, by decide +kernel⟩, by decide +kernel⟩
theorem cf_X3_begins : cfV yX3_begins cX3_begins 4 (some .boolean) 3 := ⟨k510, k509, s18, k4, ⟨by decide +kernel, by decide +kernel⟩, by decide +kernel⟩
theorem cf_X3_endOf : cfV yX3_endOf cX3_endOf 5 (some .int) 3 := ⟨k518, k517, s20, k4, ⟨by decide +kernel, by decide +kernel⟩, by decide +kernel⟩
theorem cf_X3_isRun : cfV yX3_isRun cX3_isRun 6 (some .boolean) 5 := ⟨k522, k521, s21, k4, ⟨by decide +kernel, by decide +kernel⟩, by decide +kernel⟩
theorem cf_X3_isRow : cfV yX3_isRow cX3_isRow 4 (some .boolean) 3 := ⟨k506, k505, s17, k4, ⟨by decide +kernel, by decide +kernel⟩, by decide +kernel⟩
theorem cf_X3_countRows : cfV yX3_countRows cX3_countRows 5 (some .int) 0 := ⟨k502, k501, s16, k4, ⟨by decide +kernel, by decide +kernel⟩, by decide +kernel⟩
theorem cf_X3_keep : cfV yX3_keep cX3_keep 2 none 0 := ⟨k477, k476, s12, k4, ⟨by decide +kernel, by decide +kernel⟩, by decide +kernel⟩
theorem cf_X3_goBack : cfV yX3_goBack cX3_goBack 2 none 0 := ⟨k526, k525, s22, k4, ⟨by decide +kernel, by decide +kernel⟩, by decide +kernel⟩
theorem cf_X3_heldIn : cfV yX3_heldIn cX3_heldIn 6 (some .int) 3 := ⟨k491, k490, s14, k4, ⟨by decide +kernel, by decide +kernel⟩, by decide +kernel⟩
theorem cf_X3_change : cfV yX3_change cX3_change 8 none 3 := ⟨k498, k497, s15, k4, ⟨by decide +kernel, by decide +kernel⟩, by decide +kernel⟩
theorem cf_X3_perform : cfV yX3_perform cX3_perform 8 (some .int) 5 := ⟨k481, k480, s13, k4, ⟨by decide +kernel, by decide +kernel⟩, by decide +kernel⟩
theorem cf_X3_state : cfV yX3_state cX3_state 7 (some .int) 5 := ⟨k473, k471, k472, k4, ⟨by decide +kernel, by decide +kernel⟩, by decide +kernel⟩
theorem cf_X3_queue : cfV yX3_queue cX3_queue 6 (some .boolean) 5 := ⟨k530, k528, k529, k4, ⟨by decide +kernel, by decide +kernel⟩, by decide +kernel⟩
theorem cf_X3_commit : cfV yX3_commit cX3_commit 5 (some .int) 0 := ⟨k534, k532, k533, k4, ⟨by decide +kernel, by decide +kernel⟩, by decide +kernel⟩
theorem cf_X3_failed : cfV yX3_failed cX3_failed 1 (some .int) 0 := ⟨k538, k536, k537, k4, ⟨by decide +kernel, by decide +kernel⟩, by decide +kernel⟩
theorem cf_X3_isDay : cfS yX3_isDay cX3_isDay 1 (some .boolean) 1 := ⟨k545, k544, k4, ⟨by decide +kernel, by decide +kernel⟩, by decide +kernel⟩
theorem cf_X3_value : cfV yX3_value cX3_value 5 (some .int) 3 := ⟨k542, k540, k541, k4, ⟨by decide +kernel, by decide +kernel⟩, by decide +kernel⟩
theorem cf_X3_has : cfV yX3_has cX3_has 4 (some .boolean) 3 := ⟨k553, k551, k552, k4, ⟨by decide +kernel, by decide +kernel⟩, by decide +kernel⟩
theorem cf_X3_sum : cfV yX3_sum cX3_sum 8 (some .long) 4 := ⟨k557, k555, k556, k4, ⟨by decide +kernel, by decide +kernel⟩, by decide +kernel⟩
theorem cf_X3_runs : cfV yX3_runs cX3_runs 5 (some .int) 2 := ⟨k561, k559, k560, k4, ⟨by decide +kernel, by decide +kernel⟩, by decide +kernel⟩
theorem cf_X3_run : cfV yX3_run cX3_run 7 (some .int) 4 := ⟨k565, k563, k564, k4, ⟨by decide +kernel, by decide +kernel⟩, by decide +kernel⟩
theorem cf_X3_rows : cfV yX3_rows cX3_rows 1 (some .int) 0 := ⟨k569, k567, k568, k4, ⟨by decide +kernel, by decide +kernel⟩, by decide +kernel⟩
theorem cf_X3_endTime : cfV yX3_endTime cX3_endTime 7 (some .int) 3 := ⟨k577, k576, s24, k4, ⟨by decide +kernel, by decide +kernel⟩, by decide +kernel⟩
theorem cf_X3_row : cfV yX3_row cX3_row 7 (some .int) 2 := ⟨k573, k571, k572, k4, ⟨by decide +kernel, by decide +kernel⟩, by decide +kernel⟩
theorem cf_X3_changes : cfV yX3_changes cX3_changes 7 (some .int) 2 := ⟨k581, k579, k580, k4, ⟨by decide +kernel, by decide +kernel⟩, by decide +kernel⟩
theorem cf_X3_early : cfS yX3_early cX3_early 4 (some .int) 4 := ⟨k591, k590, k4, ⟨by decide +kernel, by decide +kernel⟩, by decide +kernel⟩
theorem cf_X3_lies : cfS yX3_lies cX3_lies 5 (some .int) 4 := ⟨k588, k587, k4, ⟨by decide +kernel, by decide +kernel⟩, by decide +kernel⟩
theorem cf_X3_relation : cfV yX3_relation cX3_relation 5 (some .int) 4 := ⟨k585, k583, k584, k4, ⟨by decide +kernel, by decide +kernel⟩, by decide +kernel⟩
theorem cf_X3_join : cfV yX3_join cX3_join 9 (some .int) 4 := ⟨k595, k593, k594, k4, ⟨by decide +kernel, by decide +kernel⟩, by decide +kernel⟩
theorem inX0 : ∀ w ∈ u_ws RX0 TX0 4, w ∈ WT := by
  intro w h
  obtain ⟨k, hk, rfl⟩ := List.mem_map.mp h
  have hk := List.mem_range.mp hk
  rcases (show k = 0 ∨ k = 1 ∨ k = 2 ∨ k = 3 by omega) with rfl | rfl | rfl | rfl
  · exact k32
  · exact k34
  · exact k36
  · exact k38
theorem inX1 : ∀ w ∈ u_ws RX1 TX1 2, w ∈ WT := by
  intro w h
  obtain ⟨k, hk, rfl⟩ := List.mem_map.mp h
  have hk := List.mem_range.mp hk
  rcases (show k = 0 ∨ k = 1 by omega) with rfl | rfl
  · exact k51
  · exact k53
theorem inX2 : ∀ w ∈ u_ws RX2 TX2 3, w ∈ WT := by
  intro w h
  obtain ⟨k, hk, rfl⟩ := List.mem_map.mp h
  have hk := List.mem_range.mp hk
  rcases (show k = 0 ∨ k = 1 ∨ k = 2 by omega) with rfl | rfl | rfl
  · exact k59
  · exact k61
  · exact k63
theorem inX3 : ∀ w ∈ u_ws RX3 TX3 10, w ∈ WT := by
  intro w h
  obtain ⟨k, hk, rfl⟩ := List.mem_map.mp h
  have hk := List.mem_range.mp hk
  rcases (show k = 0 ∨ k = 1 ∨ k = 2 ∨ k = 3 ∨ k = 4 ∨ k = 5 ∨ k = 6 ∨ k = 7 ∨ k = 8 ∨ k = 9 by omega) with rfl | rfl | rfl | rfl | rfl | rfl | rfl | rfl | rfl | rfl
  · exact k432
  · exact k434
  · exact k436
  · exact k438
  · exact k440
  · exact k442
  · exact k444
  · exact k446
  · exact k448
  · exact k450
end
section
set_option maxHeartbeats 4000000 in
set_option maxRecDepth 100000 in
theorem c_X2_slotOf {l : Launch} {tm ky : Nat}  : roM l yX2_slotOf cX2_slotOf 2 (some .int) 0 0 [.int (nI tm), .int (nI ky)] (fun _ => True) (nI (tm * 4 + ky)) := by
  refine bd_ro (by decide) (Nat.le_of_ble_eq_true rfl) ?_
  intro p e s m args below meth c Q hF hpw hret ls hl
  obtain ⟨hx, hb, hml, hown, hts, hr, hlocks⟩ := id hF
  have hI : va_S noA s.heap s.heap [] := va_S.rf
  have hl : lv_has ls 2 [(0, .int (nI tm)), (1, .int (nI ky))] := hl
  suffices hgo : ∀ (H : Heap) (locs : List Loc), va_S noA s.heap H locs → ∀ ls : Array Slot, lv_has ls 2 [(0, .int (nI tm)), (1, .int (nI ky))] → W p l e (rmv 0 0) s m args below meth c H locs 0 0 Q (F0 m 0 ls []) from hgo _ _ hI ls hl
  intro H locs hI ls hl
  refine lv_iload_n hx hb dX2_slotOf_0 rfl (lv_at hl 0 rfl) ?_
  refine lv_iconst (v := nI 4) hx hb dX2_slotOf_1 (by decide) ?_
  refine lv_imul hx hb dX2_slotOf_2 ?_
  refine tp (pk_mul _ _) ?_
  refine lv_iload_n hx hb dX2_slotOf_3 rfl (lv_at hl 1 rfl) ?_
  refine lv_iadd hx hb dX2_slotOf_4 ?_
  refine tp (nI_add _ _) ?_
  exact hret hI dX2_slotOf_5 (rfl)
set_option maxHeartbeats 4000000 in
set_option maxRecDepth 100000 in
theorem c_X0_isFilled {l : Launch} {D : va_G} {cI cZ cJ : ClassId} {z : Nat} {a : Nat → Nat} {X : va_W} {vals fil rb : Nat → Int32} {t : Nat} {wo : Nat → Int32} {cnt fn : Int32} {S : Sta} (hA : cAbs S vals fil t) (ht : t < 40) {sl dy : Nat} (h1 : sl < 4 * (t + 1)) (h2 : dy < 32) : roM l yX0_isFilled cX0_isFilled 3 (some .boolean) 0 0 [.ref (a 1), .int (nI sl), .int (nI dy)] (pw D cI cZ cJ z (cw a cI vals fil rb (nI t) wo cnt fn X)) (bi ((S sl dy).isSome)) := by
  refine bd_rz (by decide) (Nat.le_of_ble_eq_true rfl) ?_
  intro p e s m args below meth c Q hF hpw hret ls hl
  obtain ⟨hx, hb, hml, hown, hts, hr, hlocks⟩ := id hF
  have hK := hpw.2.2.2
  have hI : wi D z noA (cw a cI vals fil rb (nI t) wo cnt fn X) s s.heap [] := hpw.wi
  have hl : lv_has ls 3 [(0, .ref (a 1)), (1, .int (nI sl)), (2, .int (nI dy))] := hl
  suffices hgo : ∀ (H : Heap) (locs : List Loc), wi D z noA (cw a cI vals fil rb (nI t) wo cnt fn X) s H locs → ∀ ls : Array Slot, lv_has ls 3 [(0, .ref (a 1)), (1, .int (nI sl)), (2, .int (nI dy))] → W p l e (rmv 0 0) s m args below meth c H locs 0 0 Q (F0 m 0 ls []) from hgo _ _ hI ls hl
  intro H locs hI ls hl
  refine lv_aload_n hx hb dX0_isFilled_0 rfl (lv_at hl 0 rfl) ?_
  refine va_get (D := D) (ci := 0) (v := .ref (a 3)) (C := RX0) (T := TX0) (N := 4) hx hb hts inX0 hown hK.1 hI.2.1 1 rfl rfl 1 (by decide) (hts _ k28) (fun _ h9 => h9) rfl dX0_isFilled_1 ?_
  refine lv_iload_n hx hb dX0_isFilled_4 rfl (lv_at hl 1 rfl) ?_
  refine ia_ld (f := fil) (k := sl) hx hb hK hI 3 rfl dX0_isFilled_5 (by omega) (by decide) ?_
  refine lv_iload_n hx hb dX0_isFilled_6 rfl (lv_at hl 2 rfl) ?_
  refine lv_iushr (v := ((fil sl).toUInt32 >>> ((nI dy).toUInt32 &&& Int32.toUInt32 31)).toInt32) hx hb dX0_isFilled_7 rfl ?_
  refine lv_iconst (v := nI 1) hx hb dX0_isFilled_8 (by decide) ?_
  refine lv_iand hx hb dX0_isFilled_9 ?_
  refine lv_if_eq (tgt := 17) hx hb dX0_isFilled_10 (by decide) (fun c10 => ?_) (fun c10 => ?_)
  · refine lv_iconst (v := nI 0) hx hb dX0_isFilled_17 (by decide) ?_
    exact hret hI.2.2.2 dX0_isFilled_18 (bi_f (by rw [has_c hA h1 h2]; first | exact (bit1 _ h2).mp c10 | exact nf (fun q => c10 ((bit1 _ h2).mpr q)))).symm
  · refine lv_iconst (v := nI 1) hx hb dX0_isFilled_13 (by decide) ?_
    refine lv_goto (tgt := 18) hx hb dX0_isFilled_14 (by decide) ?_
    exact hret hI.2.2.2 dX0_isFilled_18 (bi_t (by rw [has_c hA h1 h2]; first | exact (bit1 _ h2).mp c10 | exact nf (fun q => c10 ((bit1 _ h2).mpr q)))).symm
set_option maxHeartbeats 4000000 in
set_option maxRecDepth 100000 in
theorem c_X0_valueOn {l : Launch} {D : va_G} {cI cZ cJ : ClassId} {z : Nat} {a : Nat → Nat} {X : va_W} {vals fil rb : Nat → Int32} {t : Nat} {wo : Nat → Int32} {cnt fn : Int32} (ht : t < 40) {sl dy : Nat} (h1 : sl < 4 * (t + 1)) (h2 : dy < 32) : roM l yX0_valueOn cX0_valueOn 3 (some .int) 0 0 [.ref (a 1), .int (nI sl), .int (nI dy)] (pw D cI cZ cJ z (cw a cI vals fil rb (nI t) wo cnt fn X)) (vals (sl * 32 + dy)) := by
  refine bd_ro (by decide) (Nat.le_of_ble_eq_true rfl) ?_
  intro p e s m args below meth c Q hF hpw hret ls hl
  obtain ⟨hx, hb, hml, hown, hts, hr, hlocks⟩ := id hF
  have hK := hpw.2.2.2
  have hI : wi D z noA (cw a cI vals fil rb (nI t) wo cnt fn X) s s.heap [] := hpw.wi
  have hl : lv_has ls 3 [(0, .ref (a 1)), (1, .int (nI sl)), (2, .int (nI dy))] := hl
  suffices hgo : ∀ (H : Heap) (locs : List Loc), wi D z noA (cw a cI vals fil rb (nI t) wo cnt fn X) s H locs → ∀ ls : Array Slot, lv_has ls 3 [(0, .ref (a 1)), (1, .int (nI sl)), (2, .int (nI dy))] → W p l e (rmv 0 0) s m args below meth c H locs 0 0 Q (F0 m 0 ls []) from hgo _ _ hI ls hl
  intro H locs hI ls hl
  refine lv_aload_n hx hb dX0_valueOn_0 rfl (lv_at hl 0 rfl) ?_
  refine va_get (D := D) (ci := 0) (v := .ref (a 2)) (C := RX0) (T := TX0) (N := 4) hx hb hts inX0 hown hK.1 hI.2.1 1 rfl rfl 0 (by decide) (hts _ k27) (fun _ h9 => h9) rfl dX0_valueOn_1 ?_
  refine lv_iload_n hx hb dX0_valueOn_4 rfl (lv_at hl 1 rfl) ?_
  refine lv_bipush (v := nI 32) hx hb dX0_valueOn_5 (by decide) ?_
  refine lv_imul hx hb dX0_valueOn_7 ?_
  refine tp (pk_mul _ _) ?_
  refine lv_iload_n hx hb dX0_valueOn_8 rfl (lv_at hl 2 rfl) ?_
  refine lv_iadd hx hb dX0_valueOn_9 ?_
  refine tp (nI_add _ _) ?_
  refine ia_ld (f := vals) (k := sl * 32 + dy) hx hb hK hI 2 rfl dX0_valueOn_10 (by omega) (by decide) ?_
  exact hret hI.2.2.2 dX0_valueOn_11 (rfl)
set_option maxHeartbeats 4000000 in
set_option maxRecDepth 100000 in
theorem c_X0_continuesRun {l : Launch} {D : va_G} {cI cZ cJ : ClassId} {z : Nat} {a : Nat → Nat} {X : va_W} {vals fil rb : Nat → Int32} {t : Nat} {wo : Nat → Int32} {cnt fn : Int32} {S : Sta} (hA : cAbs S vals fil t) (ht : t < 40) {sl dy : Nat} (h1 : sl < 4 * (t + 1)) (h2 : dy < 32) : roM l yX0_continuesRun cX0_continuesRun 4 (some .boolean) 0 0 [.ref (a 1), .int (nI sl), .int (nI dy)] (pw D cI cZ cJ z (cw a cI vals fil rb (nI t) wo cnt fn X)) (bi (con S sl dy)) := by
  refine bd_rz (by decide) (Nat.le_of_ble_eq_true rfl) ?_
  intro p e s m args below meth c Q hF hpw hret ls hl
  obtain ⟨hx, hb, hml, hown, hts, hr, hlocks⟩ := id hF
  have hK := hpw.2.2.2
  have hI : wi D z noA (cw a cI vals fil rb (nI t) wo cnt fn X) s s.heap [] := hpw.wi
  have hl : lv_has ls 4 [(0, .ref (a 1)), (1, .int (nI sl)), (2, .int (nI dy))] := hl
  suffices hgo : ∀ (H : Heap) (locs : List Loc), wi D z noA (cw a cI vals fil rb (nI t) wo cnt fn X) s H locs → ∀ ls : Array Slot, lv_has ls 4 [(0, .ref (a 1)), (1, .int (nI sl)), (2, .int (nI dy))] → W p l e (rmv 0 0) s m args below meth c H locs 0 0 Q (F0 m 0 ls []) from hgo _ _ hI ls hl
  intro H locs hI ls hl
  refine lv_iload_n hx hb dX0_continuesRun_0 rfl (lv_at hl 2 rfl) ?_
  refine nz_eq (tgt := 20) hx hb dX0_continuesRun_1 (by decide) (by omega) (fun c1 => ?_) (fun c1 => ?_)
  · refine lv_iconst (v := nI 0) hx hb dX0_continuesRun_20 (by decide) ?_
    exact hret hI.2.2.2 dX0_continuesRun_21 (bi_f (by first | exact con_f1 c1 | exact con_f2 hA h1 h2 c1 c17)).symm
  · refine lv_aload_n hx hb dX0_continuesRun_4 rfl (lv_at hl 0 rfl) ?_
    refine va_get (D := D) (ci := 0) (v := .ref (a 3)) (C := RX0) (T := TX0) (N := 4) hx hb hts inX0 hown hK.1 hI.2.1 1 rfl rfl 1 (by decide) (hts _ k28) (fun _ h9 => h9) rfl dX0_continuesRun_5 ?_
    refine lv_iload_n hx hb dX0_continuesRun_8 rfl (lv_at hl 1 rfl) ?_
    refine ia_ld (f := fil) (k := sl) hx hb hK hI 3 rfl dX0_continuesRun_9 (by omega) (by decide) ?_
    refine lv_iload_n hx hb dX0_continuesRun_10 rfl (lv_at hl 2 rfl) ?_
    refine lv_iconst (v := nI 1) hx hb dX0_continuesRun_11 (by decide) ?_
    refine lv_isub hx hb dX0_continuesRun_12 ?_
    refine tp (pk_sub (by omega)) ?_
    refine lv_iushr (v := ((fil sl).toUInt32 >>> ((nI (dy - 1)).toUInt32 &&& Int32.toUInt32 31)).toInt32) hx hb dX0_continuesRun_13 rfl ?_
    refine lv_iconst (v := nI 3) hx hb dX0_continuesRun_14 (by decide) ?_
    refine lv_iand hx hb dX0_continuesRun_15 ?_
    refine lv_iconst (v := nI 3) hx hb dX0_continuesRun_16 (by decide) ?_
    refine lv_icmp_eq (tgt := 22) hx hb dX0_continuesRun_17 (by decide) (fun c17 => ?_) (fun c17 => ?_)
    · refine lv_iload_n hx hb dX0_continuesRun_22 rfl (lv_at hl 1 rfl) ?_
      refine lv_bipush (v := nI 32) hx hb dX0_continuesRun_23 (by decide) ?_
      refine lv_imul hx hb dX0_continuesRun_25 ?_
      refine tp (pk_mul _ _) ?_
      refine lv_iload_n hx hb dX0_continuesRun_26 rfl (lv_at hl 2 rfl) ?_
      refine lv_iadd hx hb dX0_continuesRun_27 ?_
      refine tp (nI_add _ _) ?_
      refine lv_istore_n (lv' := [(3, .int (nI (sl * 32 + dy))), (0, .ref (a 1)), (1, .int (nI sl)), (2, .int (nI dy))]) hx hb dX0_continuesRun_28 rfl hl (by decide) rfl (fun ls hl => ?_)
      refine lv_aload_n hx hb dX0_continuesRun_29 rfl (lv_at hl 1 rfl) ?_
      refine va_get (D := D) (ci := 0) (v := .ref (a 2)) (C := RX0) (T := TX0) (N := 4) hx hb hts inX0 hown hK.1 hI.2.1 1 rfl rfl 0 (by decide) (hts _ k27) (fun _ h9 => h9) rfl dX0_continuesRun_30 ?_
      refine lv_iload_n hx hb dX0_continuesRun_33 rfl (lv_at hl 0 rfl) ?_
      refine ia_ld (f := vals) (k := sl * 32 + dy) hx hb hK hI 2 rfl dX0_continuesRun_34 (by omega) (by decide) ?_
      refine lv_aload_n hx hb dX0_continuesRun_35 rfl (lv_at hl 1 rfl) ?_
      refine va_get (D := D) (ci := 0) (v := .ref (a 2)) (C := RX0) (T := TX0) (N := 4) hx hb hts inX0 hown hK.1 hI.2.1 1 rfl rfl 0 (by decide) (hts _ k27) (fun _ h9 => h9) rfl dX0_continuesRun_36 ?_
      refine lv_iload_n hx hb dX0_continuesRun_39 rfl (lv_at hl 0 rfl) ?_
      refine lv_iconst (v := nI 1) hx hb dX0_continuesRun_40 (by decide) ?_
      refine lv_isub hx hb dX0_continuesRun_41 ?_
      refine tp (pk_sub (by omega)) ?_
      refine ia_ld (f := vals) (k := sl * 32 + dy - 1) hx hb hK hI 2 rfl dX0_continuesRun_42 (by omega) (by decide) ?_
      refine lv_icmp_ne (tgt := 50) hx hb dX0_continuesRun_43 (by decide) (fun c43 => ?_) (fun c43 => ?_)
      · refine lv_iconst (v := nI 0) hx hb dX0_continuesRun_50 (by decide) ?_
        exact hret hI.2.2.2 dX0_continuesRun_51 (bi_f (by rw [con_43 hA h1 h2 c1 c17]; simp [c43])).symm
      · refine lv_iconst (v := nI 1) hx hb dX0_continuesRun_46 (by decide) ?_
        refine lv_goto (tgt := 51) hx hb dX0_continuesRun_47 (by decide) ?_
        exact hret hI.2.2.2 dX0_continuesRun_51 (bi_t (by rw [con_43 hA h1 h2 c1 c17]; simp [c43])).symm
    · refine lv_iconst (v := nI 0) hx hb dX0_continuesRun_20 (by decide) ?_
      exact hret hI.2.2.2 dX0_continuesRun_21 (bi_f (by first | exact con_f1 c1 | exact con_f2 hA h1 h2 c1 c17)).symm
set_option maxHeartbeats 4000000 in
set_option maxRecDepth 100000 in
theorem c_X0_startsRun {l : Launch} {D : va_G} {cI cZ cJ : ClassId} {z : Nat} {a : Nat → Nat} {X : va_W} {vals fil rb : Nat → Int32} {t : Nat} {wo : Nat → Int32} {cnt fn : Int32} {S : Sta} (hA : cAbs S vals fil t) (ht : t < 40) {sl dy : Nat} (h1 : sl < 4 * (t + 1)) (h2 : dy < 32) : roM l yX0_startsRun cX0_startsRun 3 (some .boolean) 1 23 [.ref (a 1), .int (nI sl), .int (nI dy)] (pw D cI cZ cJ z (cw a cI vals fil rb (nI t) wo cnt fn X)) (bi (beg S sl dy)) := by
  refine bd_rz (by decide) (Nat.le_of_ble_eq_true rfl) ?_
  intro p e s m args below meth c Q hF hpw hret ls hl
  obtain ⟨hx, hb, hml, hown, hts, hr, hlocks⟩ := id hF
  have hK := hpw.2.2.2
  have hI : wi D z noA (cw a cI vals fil rb (nI t) wo cnt fn X) s s.heap [] := hpw.wi
  have hl : lv_has ls 3 [(0, .ref (a 1)), (1, .int (nI sl)), (2, .int (nI dy))] := hl
  suffices hgo : ∀ (H : Heap) (locs : List Loc), wi D z noA (cw a cI vals fil rb (nI t) wo cnt fn X) s H locs → ∀ ls : Array Slot, lv_has ls 3 [(0, .ref (a 1)), (1, .int (nI sl)), (2, .int (nI dy))] → W p l e (rmv 1 23) s m args below meth c H locs 0 0 Q (F0 m 0 ls []) from hgo _ _ hI ls hl
  intro H locs hI ls hl
  refine lv_aload_n hx hb dX0_startsRun_0 rfl (lv_at hl 0 rfl) ?_
  refine lv_iload_n hx hb dX0_startsRun_1 rfl (lv_at hl 1 rfl) ?_
  refine lv_iload_n hx hb dX0_startsRun_2 rfl (lv_at hl 2 rfl) ?_
  refine k_ro (run_v (As := [.int (nI sl), .int (nI dy)]) (rest := []) hF hK hI (c_X0_isFilled hA ht (by omega) (by omega)) cf_X0_isFilled k223 1 0 rfl rfl ⟨Nat.le_of_ble_eq_true rfl, Nat.le_of_ble_eq_true rfl⟩ ⟨rfl, rfl⟩ ⟨Nat.le_of_ble_eq_true rfl, Nat.le_of_ble_eq_true rfl⟩ rfl hl.1 rfl (Nat.le_of_ble_eq_true rfl) dX0_startsRun_3) hI (fun H locs hI => ?_)
  refine bz_eq (tgt := 22) hx hb dX0_startsRun_6 (by decide) (fun c6 => ?_) (fun c6 => ?_)
  · refine lv_iconst (v := nI 0) hx hb dX0_startsRun_22 (by decide) ?_
    exact hret hI.2.2.2 dX0_startsRun_23 (bi_f (by simp_all [beg])).symm
  · refine lv_aload_n hx hb dX0_startsRun_9 rfl (lv_at hl 0 rfl) ?_
    refine lv_iload_n hx hb dX0_startsRun_10 rfl (lv_at hl 1 rfl) ?_
    refine lv_iload_n hx hb dX0_startsRun_11 rfl (lv_at hl 2 rfl) ?_
    refine k_ro (run_v (As := [.int (nI sl), .int (nI dy)]) (rest := []) hF hK hI (c_X0_continuesRun hA ht (by omega) (by omega)) cf_X0_continuesRun k236 1 0 rfl rfl ⟨Nat.le_of_ble_eq_true rfl, Nat.le_of_ble_eq_true rfl⟩ ⟨rfl, rfl⟩ ⟨Nat.le_of_ble_eq_true rfl, Nat.le_of_ble_eq_true rfl⟩ rfl hl.1 rfl (Nat.le_of_ble_eq_true rfl) dX0_startsRun_12) hI (fun H locs hI => ?_)
    refine bz_ne (tgt := 22) hx hb dX0_startsRun_15 (by decide) (fun c15 => ?_) (fun c15 => ?_)
    · refine lv_iconst (v := nI 0) hx hb dX0_startsRun_22 (by decide) ?_
      exact hret hI.2.2.2 dX0_startsRun_23 (bi_f (by simp_all [beg])).symm
    · refine lv_iconst (v := nI 1) hx hb dX0_startsRun_18 (by decide) ?_
      refine lv_goto (tgt := 23) hx hb dX0_startsRun_19 (by decide) ?_
      exact hret hI.2.2.2 dX0_startsRun_23 (bi_t (by simp_all [beg])).symm
set_option maxHeartbeats 4000000 in
set_option maxRecDepth 100000 in
theorem c_X0_runEnd {l : Launch} {D : va_G} {cI cZ cJ : ClassId} {z : Nat} {a : Nat → Nat} {X : va_W} {vals fil rb : Nat → Int32} {t : Nat} {wo : Nat → Int32} {cnt fn : Int32} {S : Sta} (hA : cAbs S vals fil t) (ht : t < 40) {sl dy : Nat} (h1 : sl < 4 * (t + 1)) (h2 : dy < 32) : roM l yX0_runEnd cX0_runEnd 4 (some .int) 1 23 [.ref (a 1), .int (nI sl), .int (nI dy)] (pw D cI cZ cJ z (cw a cI vals fil rb (nI t) wo cnt fn X)) (nI (rend S sl dy)) := by
  refine bd_ro (by decide) (Nat.le_of_ble_eq_true rfl) ?_
  intro p e s m args below meth c Q hF hpw hret ls hl
  obtain ⟨hx, hb, hml, hown, hts, hr, hlocks⟩ := id hF
  have hK := hpw.2.2.2
  have hI : wi D z noA (cw a cI vals fil rb (nI t) wo cnt fn X) s s.heap [] := hpw.wi
  have hl : lv_has ls 4 [(0, .ref (a 1)), (1, .int (nI sl)), (2, .int (nI dy))] := hl
  suffices hgo : ∀ (H : Heap) (locs : List Loc), wi D z noA (cw a cI vals fil rb (nI t) wo cnt fn X) s H locs → ∀ ls : Array Slot, lv_has ls 4 [(0, .ref (a 1)), (1, .int (nI sl)), (2, .int (nI dy))] → W p l e (rmv 1 23) s m args below meth c H locs 0 0 Q (F0 m 0 ls []) from hgo _ _ hI ls hl
  intro H locs hI ls hl
  refine lv_iload_n hx hb dX0_runEnd_0 rfl (lv_at hl 2 rfl) ?_
  refine lv_iconst (v := nI 1) hx hb dX0_runEnd_1 (by decide) ?_
  refine lv_iadd hx hb dX0_runEnd_2 ?_
  refine tp (nI_add _ _) ?_
  refine lv_istore_n (lv' := [(3, .int (nI (dy + 1))), (0, .ref (a 1)), (1, .int (nI sl)), (2, .int (nI dy))]) hx hb dX0_runEnd_3 rfl hl (by decide) rfl (fun ls hl => ?_)
  have J4 : ∀ (n4_ : Nat) (x : Nat) (hx1 : x ≤ 32) (hxe : rend S sl dy = finF S sl (32 - x) x) (hm4 : 32 < x + n4_) (H : Heap) (locs : List Loc), wi D z noA (cw a cI vals fil rb (nI t) wo cnt fn X) s H locs → ∀ ls : Array Slot, lv_has ls 4 [(0, .ref (a 1)), (1, .int (nI sl)), (2, .int (nI dy)), (3, .int (nI x))] → W p l e (rmv 1 23) s m args below meth c H locs 0 0 Q (F0 m 4 ls []) := by
    intro n4_
    induction n4_ with
    | zero => intro x hx1 hxe hm4; exact absurd hm4 (by omega)
    | succ n4_ ih4 =>
      intro x hx1 hxe hm4 H locs hI ls hl
      refine lv_iload_n hx hb dX0_runEnd_4 rfl (lv_at hl 3 rfl) ?_
      refine lv_bipush (v := nI 32) hx hb dX0_runEnd_5 (by decide) ?_
      refine nb_ge (tgt := 25) hx hb dX0_runEnd_7 (by decide) (by omega) (by omega) (fun c7 => ?_) (fun c7 => ?_)
      · refine lv_iload_n hx hb dX0_runEnd_25 rfl (lv_at hl 3 rfl) ?_
        exact hret hI.2.2.2 dX0_runEnd_26 ((by rw [hxe]; first | (rw [show 32 - x = 0 by omega]; rfl) | rw [fin_no c16]))
      · refine lv_aload_n hx hb dX0_runEnd_10 rfl (lv_at hl 0 rfl) ?_
        refine lv_iload_n hx hb dX0_runEnd_11 rfl (lv_at hl 1 rfl) ?_
        refine lv_iload_n hx hb dX0_runEnd_12 rfl (lv_at hl 3 rfl) ?_
        refine k_ro (run_v (As := [.int (nI sl), .int (nI x)]) (rest := []) hF hK hI (c_X0_continuesRun hA ht (by omega) (by omega)) cf_X0_continuesRun k236 1 0 rfl rfl ⟨Nat.le_of_ble_eq_true rfl, Nat.le_of_ble_eq_true rfl⟩ ⟨rfl, rfl⟩ ⟨Nat.le_of_ble_eq_true rfl, Nat.le_of_ble_eq_true rfl⟩ rfl hl.1 rfl (Nat.le_of_ble_eq_true rfl) dX0_runEnd_13) hI (fun H locs hI => ?_)
        refine bz_eq (tgt := 25) hx hb dX0_runEnd_16 (by decide) (fun c16 => ?_) (fun c16 => ?_)
        · refine lv_iload_n hx hb dX0_runEnd_25 rfl (lv_at hl 3 rfl) ?_
          exact hret hI.2.2.2 dX0_runEnd_26 ((by rw [hxe]; first | (rw [show 32 - x = 0 by omega]; rfl) | rw [fin_no c16]))
        · refine lv_iinc (v := nI (x + 1)) (lv' := [(3, .int (nI (x + 1))), (0, .ref (a 1)), (1, .int (nI sl)), (2, .int (nI dy))]) hx hb dX0_runEnd_19 hl (k := 3) rfl (inc_n _ 1) (by decide) rfl (fun ls hl => ?_)
          refine lv_goto (tgt := 4) hx hb dX0_runEnd_22 (by decide) ?_
          exact ih4 (x + 1) (by omega) (hxe.trans (fin_go (by omega) c16)) (by omega) H locs hI ls (lv_sub hl [1, 2, 3, 0] rfl)
  exact J4 (32 + 1) (dy + 1) (by omega) (rend_eq h2) (by omega) H locs hI ls (lv_sub hl [1, 2, 3, 0] rfl)
set_option maxHeartbeats 4000000 in
set_option maxRecDepth 100000 in
theorem c_X0_countRuns {l : Launch} {D : va_G} {cI cZ cJ : ClassId} {z : Nat} {a : Nat → Nat} {X : va_W} {vals fil rb : Nat → Int32} {t : Nat} {wo : Nat → Int32} {cnt fn : Int32} {S : Sta} (hA : cAbs S vals fil t) (ht : t < 40) {sl : Nat} (h1 : sl < 4 * (t + 1)) : roM l yX0_countRuns cX0_countRuns 4 (some .int) 2 45 [.ref (a 1), .int (nI sl)] (pw D cI cZ cJ z (cw a cI vals fil rb (nI t) wo cnt fn X)) (nI (fb_ct (beg S sl) 32)) := by
  refine bd_ro (by decide) (Nat.le_of_ble_eq_true rfl) ?_
  intro p e s m args below meth c Q hF hpw hret ls hl
  obtain ⟨hx, hb, hml, hown, hts, hr, hlocks⟩ := id hF
  have hK := hpw.2.2.2
  have hI : wi D z noA (cw a cI vals fil rb (nI t) wo cnt fn X) s s.heap [] := hpw.wi
  have hl : lv_has ls 4 [(0, .ref (a 1)), (1, .int (nI sl))] := hl
  suffices hgo : ∀ (H : Heap) (locs : List Loc), wi D z noA (cw a cI vals fil rb (nI t) wo cnt fn X) s H locs → ∀ ls : Array Slot, lv_has ls 4 [(0, .ref (a 1)), (1, .int (nI sl))] → W p l e (rmv 2 45) s m args below meth c H locs 0 0 Q (F0 m 0 ls []) from hgo _ _ hI ls hl
  intro H locs hI ls hl
  refine lv_iconst (v := nI 0) hx hb dX0_countRuns_0 (by decide) ?_
  refine lv_istore_n (lv' := [(2, .int (nI 0)), (0, .ref (a 1)), (1, .int (nI sl))]) hx hb dX0_countRuns_1 rfl hl (by decide) rfl (fun ls hl => ?_)
  refine lv_iconst (v := nI 0) hx hb dX0_countRuns_2 (by decide) ?_
  refine lv_istore_n (lv' := [(3, .int (nI 0)), (2, .int (nI 0)), (0, .ref (a 1)), (1, .int (nI sl))]) hx hb dX0_countRuns_3 rfl hl (by decide) rfl (fun ls hl => ?_)
  have J4 : ∀ (n4_ : Nat) (dy : Nat) (n2 : Nat) (hd : dy ≤ 32) (hn : n2 = fb_ct (beg S sl) dy) (hm4 : 32 < dy + n4_) (H : Heap) (locs : List Loc), wi D z noA (cw a cI vals fil rb (nI t) wo cnt fn X) s H locs → ∀ ls : Array Slot, lv_has ls 4 [(0, .ref (a 1)), (1, .int (nI sl)), (2, .int (nI n2)), (3, .int (nI dy))] → W p l e (rmv 2 45) s m args below meth c H locs 0 0 Q (F0 m 4 ls []) := by
    intro n4_
    induction n4_ with
    | zero => intro dy n2 hd hn hm4; exact absurd hm4 (by omega)
    | succ n4_ ih4 =>
      intro dy n2 hd hn hm4 H locs hI ls hl
      refine lv_iload_n hx hb dX0_countRuns_4 rfl (lv_at hl 3 rfl) ?_
      refine lv_bipush (v := nI 32) hx hb dX0_countRuns_5 (by decide) ?_
      refine nb_ge (tgt := 28) hx hb dX0_countRuns_7 (by decide) (by omega) (by omega) (fun c7 => ?_) (fun c7 => ?_)
      · refine lv_iload_n hx hb dX0_countRuns_28 rfl (lv_at hl 2 rfl) ?_
        exact hret hI.2.2.2 dX0_countRuns_29 ((by rw [hn, show dy = 32 by omega]))
      · refine lv_aload_n hx hb dX0_countRuns_10 rfl (lv_at hl 0 rfl) ?_
        refine lv_iload_n hx hb dX0_countRuns_11 rfl (lv_at hl 1 rfl) ?_
        refine lv_iload_n hx hb dX0_countRuns_12 rfl (lv_at hl 3 rfl) ?_
        refine k_ro (run_v (As := [.int (nI sl), .int (nI dy)]) (rest := []) hF hK hI (c_X0_startsRun hA ht (by omega) (by omega)) cf_X0_startsRun k232 1 0 rfl rfl ⟨Nat.le_of_ble_eq_true rfl, Nat.le_of_ble_eq_true rfl⟩ ⟨rfl, rfl⟩ ⟨Nat.le_of_ble_eq_true rfl, Nat.le_of_ble_eq_true rfl⟩ rfl hl.1 rfl (Nat.le_of_ble_eq_true rfl) dX0_countRuns_13) hI (fun H locs hI => ?_)
        refine bz_eq (tgt := 22) hx hb dX0_countRuns_16 (by decide) (fun c16 => ?_) (fun c16 => ?_)
        · refine lv_iinc (v := nI (dy + 1)) (lv' := [(3, .int (nI (dy + 1))), (0, .ref (a 1)), (1, .int (nI sl)), (2, .int (nI n2))]) hx hb dX0_countRuns_22 hl (k := 3) rfl (inc_n _ 1) (by decide) rfl (fun ls hl => ?_)
          refine lv_goto (tgt := 4) hx hb dX0_countRuns_25 (by decide) ?_
          exact ih4 (dy + 1) n2 (by omega) (by rw [fb_ct_succ, hn, c16]; rfl) (by omega) H locs hI ls (lv_sub hl [1, 2, 3, 0] rfl)
        · refine lv_iinc (v := nI (n2 + 1)) (lv' := [(2, .int (nI (n2 + 1))), (0, .ref (a 1)), (1, .int (nI sl)), (3, .int (nI dy))]) hx hb dX0_countRuns_19 hl (k := 2) rfl (inc_n _ 1) (by decide) rfl (fun ls hl => ?_)
          refine lv_iinc (v := nI (dy + 1)) (lv' := [(3, .int (nI (dy + 1))), (2, .int (nI (n2 + 1))), (0, .ref (a 1)), (1, .int (nI sl))]) hx hb dX0_countRuns_22 hl (k := 3) rfl (inc_n _ 1) (by decide) rfl (fun ls hl => ?_)
          refine lv_goto (tgt := 4) hx hb dX0_countRuns_25 (by decide) ?_
          exact ih4 (dy + 1) (n2 + 1) (by omega) (by rw [fb_ct_succ, hn, c16]; rfl) (by omega) H locs hI ls (lv_sub hl [2, 3, 1, 0] rfl)
  exact J4 (32 + 1) 0 0 (by omega) rfl (by omega) H locs hI ls (lv_sub hl [2, 3, 1, 0] rfl)
end
section
set_option maxHeartbeats 4000000 in
set_option maxRecDepth 100000 in
theorem c_X2_isKey {l : Launch} {key : Int32}  : roM l yX2_isKey cX2_isKey 1 (some .boolean) 0 0 [.int (key)] (fun _ => True) (bi (okK key)) := by
  refine bd_rz (by decide) (Nat.le_of_ble_eq_true rfl) ?_
  intro p e s m args below meth c Q hF hpw hret ls hl
  obtain ⟨hx, hb, hml, hown, hts, hr, hlocks⟩ := id hF
  have hI : va_S noA s.heap s.heap [] := va_S.rf
  have hl : lv_has ls 1 [(0, .int (key))] := hl
  suffices hgo : ∀ (H : Heap) (locs : List Loc), va_S noA s.heap H locs → ∀ ls : Array Slot, lv_has ls 1 [(0, .int (key))] → W p l e (rmv 0 0) s m args below meth c H locs 0 0 Q (F0 m 0 ls []) from hgo _ _ hI ls hl
  intro H locs hI ls hl
  refine lv_iload_n hx hb dX2_isKey_0 rfl (lv_at hl 0 rfl) ?_
  refine lv_if_lt (tgt := 13) hx hb dX2_isKey_1 (by decide) (fun c1 => ?_) (fun c1 => ?_)
  · refine lv_iconst (v := nI 0) hx hb dX2_isKey_13 (by decide) ?_
    exact hret hI dX2_isKey_14 (bi_f (by simp only [okK, okD, okP, okT, q_lt0, q_le4, q_lt3, q_le32, q_lt32, q_lt31, decide_eq_true_eq, decide_eq_false_iff_not] at *; (try simp only [fa_lt, fa_le] at *); omega)).symm
  · refine lv_iload_n hx hb dX2_isKey_4 rfl (lv_at hl 0 rfl) ?_
    refine lv_iconst (v := nI 4) hx hb dX2_isKey_5 (by decide) ?_
    refine lv_icmp_ge (tgt := 13) hx hb dX2_isKey_6 (by decide) (fun c6 => ?_) (fun c6 => ?_)
    · refine lv_iconst (v := nI 0) hx hb dX2_isKey_13 (by decide) ?_
      exact hret hI dX2_isKey_14 (bi_f (by simp only [okK, okD, okP, okT, q_lt0, q_le4, q_lt3, q_le32, q_lt32, q_lt31, decide_eq_true_eq, decide_eq_false_iff_not] at *; (try simp only [fa_lt, fa_le] at *); omega)).symm
    · refine lv_iconst (v := nI 1) hx hb dX2_isKey_9 (by decide) ?_
      refine lv_goto (tgt := 14) hx hb dX2_isKey_10 (by decide) ?_
      exact hret hI dX2_isKey_14 (bi_t (by simp only [okK, okD, okP, okT, q_lt0, q_le4, q_lt3, q_le32, q_lt32, q_lt31, decide_eq_true_eq, decide_eq_false_iff_not] at *; (try simp only [fa_lt, fa_le] at *); omega)).symm
set_option maxHeartbeats 4000000 in
set_option maxRecDepth 100000 in
theorem c_X2_isDay {l : Launch} {day : Int32}  : roM l yX2_isDay cX2_isDay 1 (some .boolean) 0 0 [.int (day)] (fun _ => True) (bi (okD day)) := by
  refine bd_rz (by decide) (Nat.le_of_ble_eq_true rfl) ?_
  intro p e s m args below meth c Q hF hpw hret ls hl
  obtain ⟨hx, hb, hml, hown, hts, hr, hlocks⟩ := id hF
  have hI : va_S noA s.heap s.heap [] := va_S.rf
  have hl : lv_has ls 1 [(0, .int (day))] := hl
  suffices hgo : ∀ (H : Heap) (locs : List Loc), va_S noA s.heap H locs → ∀ ls : Array Slot, lv_has ls 1 [(0, .int (day))] → W p l e (rmv 0 0) s m args below meth c H locs 0 0 Q (F0 m 0 ls []) from hgo _ _ hI ls hl
  intro H locs hI ls hl
  refine lv_iload_n hx hb dX2_isDay_0 rfl (lv_at hl 0 rfl) ?_
  refine lv_if_lt (tgt := 14) hx hb dX2_isDay_1 (by decide) (fun c1 => ?_) (fun c1 => ?_)
  · refine lv_iconst (v := nI 0) hx hb dX2_isDay_14 (by decide) ?_
    exact hret hI dX2_isDay_15 (bi_f (by simp only [okK, okD, okP, okT, q_lt0, q_le4, q_lt3, q_le32, q_lt32, q_lt31, decide_eq_true_eq, decide_eq_false_iff_not] at *; (try simp only [fa_lt, fa_le] at *); omega)).symm
  · refine lv_iload_n hx hb dX2_isDay_4 rfl (lv_at hl 0 rfl) ?_
    refine lv_bipush (v := nI 32) hx hb dX2_isDay_5 (by decide) ?_
    refine lv_icmp_ge (tgt := 14) hx hb dX2_isDay_7 (by decide) (fun c7 => ?_) (fun c7 => ?_)
    · refine lv_iconst (v := nI 0) hx hb dX2_isDay_14 (by decide) ?_
      exact hret hI dX2_isDay_15 (bi_f (by simp only [okK, okD, okP, okT, q_lt0, q_le4, q_lt3, q_le32, q_lt32, q_lt31, decide_eq_true_eq, decide_eq_false_iff_not] at *; (try simp only [fa_lt, fa_le] at *); omega)).symm
    · refine lv_iconst (v := nI 1) hx hb dX2_isDay_10 (by decide) ?_
      refine lv_goto (tgt := 15) hx hb dX2_isDay_11 (by decide) ?_
      exact hret hI dX2_isDay_15 (bi_t (by simp only [okK, okD, okP, okT, q_lt0, q_le4, q_lt3, q_le32, q_lt32, q_lt31, decide_eq_true_eq, decide_eq_false_iff_not] at *; (try simp only [fa_lt, fa_le] at *); omega)).symm
set_option maxHeartbeats 4000000 in
set_option maxRecDepth 100000 in
theorem c_X2_isPeriod {l : Launch} {fr to : Int32}  : roM l yX2_isPeriod cX2_isPeriod 2 (some .boolean) 0 0 [.int (fr), .int (to)] (fun _ => True) (bi (okP fr to)) := by
  refine bd_rz (by decide) (Nat.le_of_ble_eq_true rfl) ?_
  intro p e s m args below meth c Q hF hpw hret ls hl
  obtain ⟨hx, hb, hml, hown, hts, hr, hlocks⟩ := id hF
  have hI : va_S noA s.heap s.heap [] := va_S.rf
  have hl : lv_has ls 2 [(0, .int (fr)), (1, .int (to))] := hl
  suffices hgo : ∀ (H : Heap) (locs : List Loc), va_S noA s.heap H locs → ∀ ls : Array Slot, lv_has ls 2 [(0, .int (fr)), (1, .int (to))] → W p l e (rmv 0 0) s m args below meth c H locs 0 0 Q (F0 m 0 ls []) from hgo _ _ hI ls hl
  intro H locs hI ls hl
  refine lv_iload_n hx hb dX2_isPeriod_0 rfl (lv_at hl 0 rfl) ?_
  refine lv_if_lt (tgt := 19) hx hb dX2_isPeriod_1 (by decide) (fun c1 => ?_) (fun c1 => ?_)
  · refine lv_iconst (v := nI 0) hx hb dX2_isPeriod_19 (by decide) ?_
    exact hret hI dX2_isPeriod_20 (bi_f (by simp only [okK, okD, okP, okT, q_lt0, q_le4, q_lt3, q_le32, q_lt32, q_lt31, decide_eq_true_eq, decide_eq_false_iff_not] at *; (try simp only [fa_lt, fa_le] at *); omega)).symm
  · refine lv_iload_n hx hb dX2_isPeriod_4 rfl (lv_at hl 0 rfl) ?_
    refine lv_iload_n hx hb dX2_isPeriod_5 rfl (lv_at hl 1 rfl) ?_
    refine lv_icmp_ge (tgt := 19) hx hb dX2_isPeriod_6 (by decide) (fun c6 => ?_) (fun c6 => ?_)
    · refine lv_iconst (v := nI 0) hx hb dX2_isPeriod_19 (by decide) ?_
      exact hret hI dX2_isPeriod_20 (bi_f (by simp only [okK, okD, okP, okT, q_lt0, q_le4, q_lt3, q_le32, q_lt32, q_lt31, decide_eq_true_eq, decide_eq_false_iff_not] at *; (try simp only [fa_lt, fa_le] at *); omega)).symm
    · refine lv_iload_n hx hb dX2_isPeriod_9 rfl (lv_at hl 1 rfl) ?_
      refine lv_bipush (v := nI 32) hx hb dX2_isPeriod_10 (by decide) ?_
      refine lv_icmp_gt (tgt := 19) hx hb dX2_isPeriod_12 (by decide) (fun c12 => ?_) (fun c12 => ?_)
      · refine lv_iconst (v := nI 0) hx hb dX2_isPeriod_19 (by decide) ?_
        exact hret hI dX2_isPeriod_20 (bi_f (by simp only [okK, okD, okP, okT, q_lt0, q_le4, q_lt3, q_le32, q_lt32, q_lt31, decide_eq_true_eq, decide_eq_false_iff_not] at *; (try simp only [fa_lt, fa_le] at *); omega)).symm
      · refine lv_iconst (v := nI 1) hx hb dX2_isPeriod_15 (by decide) ?_
        refine lv_goto (tgt := 20) hx hb dX2_isPeriod_16 (by decide) ?_
        exact hret hI dX2_isPeriod_20 (bi_t (by simp only [okK, okD, okP, okT, q_lt0, q_le4, q_lt3, q_le32, q_lt32, q_lt31, decide_eq_true_eq, decide_eq_false_iff_not] at *; (try simp only [fa_lt, fa_le] at *); omega)).symm
set_option maxHeartbeats 4000000 in
set_option maxRecDepth 100000 in
theorem c_X2_forwardRelation {l : Launch} {fa fb fc fd : Nat} (h1 : fa ≤ 32) (h2 : fb ≤ 32) (h3 : fc ≤ 32) (h4 : fd ≤ 32)  : roM l yX2_forwardRelation cX2_forwardRelation 4 (some .int) 0 0 [.int (nI fa), .int (nI fb), .int (nI fc), .int (nI fd)] (fun _ => True) (fwdI fa fb fc fd) := by
  refine bd_ro (by decide) (Nat.le_of_ble_eq_true rfl) ?_
  intro p e s m args below meth c Q hF hpw hret ls hl
  obtain ⟨hx, hb, hml, hown, hts, hr, hlocks⟩ := id hF
  have hI : va_S noA s.heap s.heap [] := va_S.rf
  have hl : lv_has ls 4 [(0, .int (nI fa)), (1, .int (nI fb)), (2, .int (nI fc)), (3, .int (nI fd))] := hl
  suffices hgo : ∀ (H : Heap) (locs : List Loc), va_S noA s.heap H locs → ∀ ls : Array Slot, lv_has ls 4 [(0, .int (nI fa)), (1, .int (nI fb)), (2, .int (nI fc)), (3, .int (nI fd))] → W p l e (rmv 0 0) s m args below meth c H locs 0 0 Q (F0 m 0 ls []) from hgo _ _ hI ls hl
  intro H locs hI ls hl
  refine lv_iload_n hx hb dX2_forwardRelation_0 rfl (lv_at hl 1 rfl) ?_
  refine lv_iload_n hx hb dX2_forwardRelation_1 rfl (lv_at hl 2 rfl) ?_
  refine nb_gt (tgt := 16) hx hb dX2_forwardRelation_2 (by decide) (by omega) (by omega) (fun c2 => ?_) (fun c2 => ?_)
  · refine lv_iload_n hx hb dX2_forwardRelation_16 rfl (lv_at hl 0 rfl) ?_
    refine lv_iload_n hx hb dX2_forwardRelation_17 rfl (lv_at hl 2 rfl) ?_
    refine nb_ge (tgt := 32) hx hb dX2_forwardRelation_18 (by decide) (by omega) (by omega) (fun c18 => ?_) (fun c18 => ?_)
    · refine lv_iload_n hx hb dX2_forwardRelation_32 rfl (lv_at hl 1 rfl) ?_
      refine lv_iload_n hx hb dX2_forwardRelation_33 rfl (lv_at hl 3 rfl) ?_
      refine nb_ge (tgt := 48) hx hb dX2_forwardRelation_34 (by decide) (by omega) (by omega) (fun c34 => ?_) (fun c34 => ?_)
      · refine lv_iload_n hx hb dX2_forwardRelation_48 rfl (lv_at hl 1 rfl) ?_
        refine lv_iload_n hx hb dX2_forwardRelation_49 rfl (lv_at hl 3 rfl) ?_
        refine nb_ne (tgt := 65) hx hb dX2_forwardRelation_50 (by decide) (by omega) (by omega) (fun c50 => ?_) (fun c50 => ?_)
        · refine lv_iconst (v := -1) hx hb dX2_forwardRelation_65 (by decide) ?_
          exact hret hI dX2_forwardRelation_66 ((by unfold fwdI; repeat (first | rw [if_pos (by omega)] | rw [if_neg (by omega)])))
        · refine lv_iload_n hx hb dX2_forwardRelation_53 rfl (lv_at hl 0 rfl) ?_
          refine lv_iload_n hx hb dX2_forwardRelation_54 rfl (lv_at hl 2 rfl) ?_
          refine nb_le (tgt := 62) hx hb dX2_forwardRelation_55 (by decide) (by omega) (by omega) (fun c55 => ?_) (fun c55 => ?_)
          · refine lv_bipush (v := nI 6) hx hb dX2_forwardRelation_62 (by decide) ?_
            exact hret hI dX2_forwardRelation_64 ((by unfold fwdI; repeat (first | rw [if_pos (by omega)] | rw [if_neg (by omega)])))
          · refine lv_iconst (v := nI 5) hx hb dX2_forwardRelation_58 (by decide) ?_
            refine lv_goto (tgt := 64) hx hb dX2_forwardRelation_59 (by decide) ?_
            exact hret hI dX2_forwardRelation_64 ((by unfold fwdI; repeat (first | rw [if_pos (by omega)] | rw [if_neg (by omega)])))
      · refine lv_iload_n hx hb dX2_forwardRelation_37 rfl (lv_at hl 0 rfl) ?_
        refine lv_iload_n hx hb dX2_forwardRelation_38 rfl (lv_at hl 2 rfl) ?_
        refine nb_ne (tgt := 46) hx hb dX2_forwardRelation_39 (by decide) (by omega) (by omega) (fun c39 => ?_) (fun c39 => ?_)
        · refine lv_iconst (v := nI 4) hx hb dX2_forwardRelation_46 (by decide) ?_
          exact hret hI dX2_forwardRelation_47 ((by unfold fwdI; repeat (first | rw [if_pos (by omega)] | rw [if_neg (by omega)])))
        · refine lv_iconst (v := nI 3) hx hb dX2_forwardRelation_42 (by decide) ?_
          refine lv_goto (tgt := 47) hx hb dX2_forwardRelation_43 (by decide) ?_
          exact hret hI dX2_forwardRelation_47 ((by unfold fwdI; repeat (first | rw [if_pos (by omega)] | rw [if_neg (by omega)])))
    · refine lv_iload_n hx hb dX2_forwardRelation_21 rfl (lv_at hl 1 rfl) ?_
      refine lv_iload_n hx hb dX2_forwardRelation_22 rfl (lv_at hl 3 rfl) ?_
      refine nb_ge (tgt := 30) hx hb dX2_forwardRelation_23 (by decide) (by omega) (by omega) (fun c23 => ?_) (fun c23 => ?_)
      · refine lv_iconst (v := -1) hx hb dX2_forwardRelation_30 (by decide) ?_
        exact hret hI dX2_forwardRelation_31 ((by unfold fwdI; repeat (first | rw [if_pos (by omega)] | rw [if_neg (by omega)])))
      · refine lv_iconst (v := nI 2) hx hb dX2_forwardRelation_26 (by decide) ?_
        refine lv_goto (tgt := 31) hx hb dX2_forwardRelation_27 (by decide) ?_
        exact hret hI dX2_forwardRelation_31 ((by unfold fwdI; repeat (first | rw [if_pos (by omega)] | rw [if_neg (by omega)])))
  · refine lv_iload_n hx hb dX2_forwardRelation_5 rfl (lv_at hl 1 rfl) ?_
    refine lv_iload_n hx hb dX2_forwardRelation_6 rfl (lv_at hl 2 rfl) ?_
    refine nb_ge (tgt := 14) hx hb dX2_forwardRelation_7 (by decide) (by omega) (by omega) (fun c7 => ?_) (fun c7 => ?_)
    · refine lv_iconst (v := nI 1) hx hb dX2_forwardRelation_14 (by decide) ?_
      exact hret hI dX2_forwardRelation_15 ((by unfold fwdI; repeat (first | rw [if_pos (by omega)] | rw [if_neg (by omega)])))
    · refine lv_iconst (v := nI 0) hx hb dX2_forwardRelation_10 (by decide) ?_
      refine lv_goto (tgt := 15) hx hb dX2_forwardRelation_11 (by decide) ?_
      exact hret hI dX2_forwardRelation_15 ((by unfold fwdI; repeat (first | rw [if_pos (by omega)] | rw [if_neg (by omega)])))
set_option maxHeartbeats 4000000 in
set_option maxRecDepth 100000 in
theorem c_X2_relationOf {l : Launch} {fa fb fc fd : Nat} (h1 : fa ≤ 32) (h2 : fb ≤ 32) (h3 : fc ≤ 32) (h4 : fd ≤ 32) (h5 : fa < fb) (h6 : fc < fd) : roM l yX2_relationOf cX2_relationOf 5 (some .int) 1 23 [.int (nI fa), .int (nI fb), .int (nI fc), .int (nI fd)] (fun _ => True) (nI (rel fa fb fc fd)) := by
  refine bd_ro (by decide) (Nat.le_of_ble_eq_true rfl) ?_
  intro p e s m args below meth c Q hF hpw hret ls hl
  obtain ⟨hx, hb, hml, hown, hts, hr, hlocks⟩ := id hF
  have hI : va_S noA s.heap s.heap [] := va_S.rf
  have hl : lv_has ls 5 [(0, .int (nI fa)), (1, .int (nI fb)), (2, .int (nI fc)), (3, .int (nI fd))] := hl
  suffices hgo : ∀ (H : Heap) (locs : List Loc), va_S noA s.heap H locs → ∀ ls : Array Slot, lv_has ls 5 [(0, .int (nI fa)), (1, .int (nI fb)), (2, .int (nI fc)), (3, .int (nI fd))] → W p l e (rmv 1 23) s m args below meth c H locs 0 0 Q (F0 m 0 ls []) from hgo _ _ hI ls hl
  intro H locs hI ls hl
  refine lv_iload_n hx hb dX2_relationOf_0 rfl (lv_at hl 0 rfl) ?_
  refine lv_iload_n hx hb dX2_relationOf_1 rfl (lv_at hl 1 rfl) ?_
  refine lv_iload_n hx hb dX2_relationOf_2 rfl (lv_at hl 2 rfl) ?_
  refine lv_iload_n hx hb dX2_relationOf_3 rfl (lv_at hl 3 rfl) ?_
  refine k_roS (run_s (As := [.int (nI fa), .int (nI fb), .int (nI fc), .int (nI fd)]) (rest := []) hF (c_X2_forwardRelation (by omega) (by omega) (by omega) (by omega)) tt_blind (fun _ _ _ => trivial) cf_X2_forwardRelation k400 ⟨Nat.le_of_ble_eq_true rfl, Nat.le_of_ble_eq_true rfl⟩ ⟨rfl, rfl⟩ ⟨Nat.le_of_ble_eq_true rfl, Nat.le_of_ble_eq_true rfl⟩ rfl hl.1 rfl (Nat.le_of_ble_eq_true rfl) dX2_relationOf_4) hI (fun H locs hI => ?_)
  refine lv_istore (lv' := [(4, .int (fwdI fa fb fc fd)), (0, .int (nI fa)), (1, .int (nI fb)), (2, .int (nI fc)), (3, .int (nI fd))]) hx hb dX2_relationOf_7 hl (by decide) rfl (fun ls hl => ?_)
  refine lv_iload hx hb dX2_relationOf_9 (lv_at hl 0 rfl) ?_
  refine lv_iconst (v := -1) hx hb dX2_relationOf_11 (by decide) ?_
  refine lv_icmp_eq (tgt := 20) hx hb dX2_relationOf_12 (by decide) (fun c12 => ?_) (fun c12 => ?_)
  · refine lv_bipush (v := nI 12) hx hb dX2_relationOf_20 (by decide) ?_
    refine lv_iload_n hx hb dX2_relationOf_22 rfl (lv_at hl 3 rfl) ?_
    refine lv_iload_n hx hb dX2_relationOf_23 rfl (lv_at hl 4 rfl) ?_
    refine lv_iload_n hx hb dX2_relationOf_24 rfl (lv_at hl 1 rfl) ?_
    refine lv_iload_n hx hb dX2_relationOf_25 rfl (lv_at hl 2 rfl) ?_
    refine k_roS (run_s (As := [.int (nI fc), .int (nI fd), .int (nI fa), .int (nI fb)]) (rest := [.int (nI 12)]) hF (c_X2_forwardRelation (by omega) (by omega) (by omega) (by omega)) tt_blind (fun _ _ _ => trivial) cf_X2_forwardRelation k400 ⟨Nat.le_of_ble_eq_true rfl, Nat.le_of_ble_eq_true rfl⟩ ⟨rfl, rfl⟩ ⟨Nat.le_of_ble_eq_true rfl, Nat.le_of_ble_eq_true rfl⟩ rfl hl.1 rfl (Nat.le_of_ble_eq_true rfl) dX2_relationOf_26) hI (fun H locs hI => ?_)
    refine lv_isub hx hb dX2_relationOf_29 ?_
    exact hret hI dX2_relationOf_30 ((by first | exact rel_f c12 | exact rel_b h5 h6 c12))
  · refine lv_iload hx hb dX2_relationOf_15 (lv_at hl 0 rfl) ?_
    refine lv_goto (tgt := 30) hx hb dX2_relationOf_17 (by decide) ?_
    exact hret hI dX2_relationOf_30 ((by first | exact rel_f c12 | exact rel_b h5 h6 c12))
set_option maxHeartbeats 4000000 in
set_option maxRecDepth 100000 in
theorem c_X0_sharesRun {l : Launch} {D : va_G} {cI cZ cJ : ClassId} {z : Nat} {a : Nat → Nat} {X : va_W} {vals fil rb : Nat → Int32} {t : Nat} {wo : Nat → Int32} {cnt fn : Int32} {S : Sta} (hA : cAbs S vals fil t) (ht : t < 40) {sl so dy : Nat} (h1 : sl < 4 * (t + 1)) (h3 : so < 4 * (t + 1)) (h2 : dy < 32) (hs : (S sl dy).isSome = true) : roM l yX0_sharesRun cX0_sharesRun 4 (some .boolean) 2 46 [.ref (a 1), .int (nI sl), .int (nI so), .int (nI dy)] (pw D cI cZ cJ z (cw a cI vals fil rb (nI t) wo cnt fn X)) (bi (shr S sl so dy)) := by
  refine bd_rz (by decide) (Nat.le_of_ble_eq_true rfl) ?_
  intro p e s m args below meth c Q hF hpw hret ls hl
  obtain ⟨hx, hb, hml, hown, hts, hr, hlocks⟩ := id hF
  have hK := hpw.2.2.2
  have hI : wi D z noA (cw a cI vals fil rb (nI t) wo cnt fn X) s s.heap [] := hpw.wi
  have hl : lv_has ls 4 [(0, .ref (a 1)), (1, .int (nI sl)), (2, .int (nI so)), (3, .int (nI dy))] := hl
  suffices hgo : ∀ (H : Heap) (locs : List Loc), wi D z noA (cw a cI vals fil rb (nI t) wo cnt fn X) s H locs → ∀ ls : Array Slot, lv_has ls 4 [(0, .ref (a 1)), (1, .int (nI sl)), (2, .int (nI so)), (3, .int (nI dy))] → W p l e (rmv 2 46) s m args below meth c H locs 0 0 Q (F0 m 0 ls []) from hgo _ _ hI ls hl
  intro H locs hI ls hl
  refine lv_aload_n hx hb dX0_sharesRun_0 rfl (lv_at hl 0 rfl) ?_
  refine lv_iload_n hx hb dX0_sharesRun_1 rfl (lv_at hl 2 rfl) ?_
  refine lv_iload_n hx hb dX0_sharesRun_2 rfl (lv_at hl 3 rfl) ?_
  refine k_ro (run_v (As := [.int (nI so), .int (nI dy)]) (rest := []) hF hK hI (c_X0_startsRun hA ht (by omega) (by omega)) cf_X0_startsRun k232 1 0 rfl rfl ⟨Nat.le_of_ble_eq_true rfl, Nat.le_of_ble_eq_true rfl⟩ ⟨rfl, rfl⟩ ⟨Nat.le_of_ble_eq_true rfl, Nat.le_of_ble_eq_true rfl⟩ rfl hl.1 rfl (Nat.le_of_ble_eq_true rfl) dX0_sharesRun_3) hI (fun H locs hI => ?_)
  refine bz_eq (tgt := 43) hx hb dX0_sharesRun_6 (by decide) (fun c6 => ?_) (fun c6 => ?_)
  · refine lv_iconst (v := nI 0) hx hb dX0_sharesRun_43 (by decide) ?_
    exact hret hI.2.2.2 dX0_sharesRun_44 (bi_f (by simp only [shr, c6, Bool.false_and, Bool.true_and] <;> simp_all [shr_v hA h1 h3 h2 hs])).symm
  · refine lv_aload_n hx hb dX0_sharesRun_9 rfl (lv_at hl 0 rfl) ?_
    refine lv_iload_n hx hb dX0_sharesRun_10 rfl (lv_at hl 2 rfl) ?_
    refine lv_iload_n hx hb dX0_sharesRun_11 rfl (lv_at hl 3 rfl) ?_
    refine k_ro (run_v (As := [.int (nI so), .int (nI dy)]) (rest := []) hF hK hI (c_X0_valueOn ht (by omega) (by omega)) cf_X0_valueOn k244 1 0 rfl rfl ⟨Nat.le_of_ble_eq_true rfl, Nat.le_of_ble_eq_true rfl⟩ ⟨rfl, rfl⟩ ⟨Nat.le_of_ble_eq_true rfl, Nat.le_of_ble_eq_true rfl⟩ rfl hl.1 rfl (Nat.le_of_ble_eq_true rfl) dX0_sharesRun_12) hI (fun H locs hI => ?_)
    refine lv_aload_n hx hb dX0_sharesRun_15 rfl (lv_at hl 0 rfl) ?_
    refine lv_iload_n hx hb dX0_sharesRun_16 rfl (lv_at hl 1 rfl) ?_
    refine lv_iload_n hx hb dX0_sharesRun_17 rfl (lv_at hl 3 rfl) ?_
    refine k_ro (run_v (As := [.int (nI sl), .int (nI dy)]) (rest := [.int (vals (so * 32 + dy))]) hF hK hI (c_X0_valueOn ht (by omega) (by omega)) cf_X0_valueOn k244 1 0 rfl rfl ⟨Nat.le_of_ble_eq_true rfl, Nat.le_of_ble_eq_true rfl⟩ ⟨rfl, rfl⟩ ⟨Nat.le_of_ble_eq_true rfl, Nat.le_of_ble_eq_true rfl⟩ rfl hl.1 rfl (Nat.le_of_ble_eq_true rfl) dX0_sharesRun_18) hI (fun H locs hI => ?_)
    refine lv_icmp_ne (tgt := 43) hx hb dX0_sharesRun_21 (by decide) (fun c21 => ?_) (fun c21 => ?_)
    · refine lv_iconst (v := nI 0) hx hb dX0_sharesRun_43 (by decide) ?_
      exact hret hI.2.2.2 dX0_sharesRun_44 (bi_f (by simp only [shr, c6, Bool.false_and, Bool.true_and] <;> simp_all [shr_v hA h1 h3 h2 hs])).symm
    · refine lv_aload_n hx hb dX0_sharesRun_24 rfl (lv_at hl 0 rfl) ?_
      refine lv_iload_n hx hb dX0_sharesRun_25 rfl (lv_at hl 2 rfl) ?_
      refine lv_iload_n hx hb dX0_sharesRun_26 rfl (lv_at hl 3 rfl) ?_
      refine k_ro (run_v (As := [.int (nI so), .int (nI dy)]) (rest := []) hF hK hI (c_X0_runEnd hA ht (by omega) (by omega)) cf_X0_runEnd k248 1 0 rfl rfl ⟨Nat.le_of_ble_eq_true rfl, Nat.le_of_ble_eq_true rfl⟩ ⟨rfl, rfl⟩ ⟨Nat.le_of_ble_eq_true rfl, Nat.le_of_ble_eq_true rfl⟩ rfl hl.1 rfl (Nat.le_of_ble_eq_true rfl) dX0_sharesRun_27) hI (fun H locs hI => ?_)
      refine lv_aload_n hx hb dX0_sharesRun_30 rfl (lv_at hl 0 rfl) ?_
      refine lv_iload_n hx hb dX0_sharesRun_31 rfl (lv_at hl 1 rfl) ?_
      refine lv_iload_n hx hb dX0_sharesRun_32 rfl (lv_at hl 3 rfl) ?_
      refine k_ro (run_v (As := [.int (nI sl), .int (nI dy)]) (rest := [.int (nI (rend S so dy))]) hF hK hI (c_X0_runEnd hA ht (by omega) (by omega)) cf_X0_runEnd k248 1 0 rfl rfl ⟨Nat.le_of_ble_eq_true rfl, Nat.le_of_ble_eq_true rfl⟩ ⟨rfl, rfl⟩ ⟨Nat.le_of_ble_eq_true rfl, Nat.le_of_ble_eq_true rfl⟩ rfl hl.1 rfl (Nat.le_of_ble_eq_true rfl) dX0_sharesRun_33) hI (fun H locs hI => ?_)
      have g1 := rend_in (S := S) (sl := so) h2
      have g2 := rend_in (S := S) (sl := sl) h2
      refine nb_ne (tgt := 43) hx hb dX0_sharesRun_36 (by decide) (by omega) (by omega) (fun c36 => ?_) (fun c36 => ?_)
      · refine lv_iconst (v := nI 0) hx hb dX0_sharesRun_43 (by decide) ?_
        exact hret hI.2.2.2 dX0_sharesRun_44 (bi_f (by simp only [shr, c6, Bool.false_and, Bool.true_and] <;> simp_all [shr_v hA h1 h3 h2 hs])).symm
      · refine lv_iconst (v := nI 1) hx hb dX0_sharesRun_39 (by decide) ?_
        refine lv_goto (tgt := 44) hx hb dX0_sharesRun_40 (by decide) ?_
        exact hret hI.2.2.2 dX0_sharesRun_44 (bi_t (by simp only [shr, c6, Bool.false_and, Bool.true_and] <;> simp_all [shr_v hA h1 h3 h2 hs])).symm
set_option maxHeartbeats 4000000 in
set_option maxRecDepth 100000 in
theorem c_X0_startsRow {l : Launch} {D : va_G} {cI cZ cJ : ClassId} {z : Nat} {a : Nat → Nat} {X : va_W} {vals fil rb : Nat → Int32} {t : Nat} {wo : Nat → Int32} {cnt fn : Int32} {S : Sta} (hA : cAbs S vals fil t) (ht : t < 40) {sl dy : Nat} (h1 : sl < 4 * (t + 1)) (h2 : dy < 32) : roM l yX0_startsRow cX0_startsRow 3 (some .boolean) 3 69 [.ref (a 1), .int (nI sl), .int (nI dy)] (pw D cI cZ cJ z (cw a cI vals fil rb (nI t) wo cnt fn X)) (bi (isRw S sl dy)) := by
  refine bd_rz (by decide) (Nat.le_of_ble_eq_true rfl) ?_
  intro p e s m args below meth c Q hF hpw hret ls hl
  obtain ⟨hx, hb, hml, hown, hts, hr, hlocks⟩ := id hF
  have hK := hpw.2.2.2
  have hI : wi D z noA (cw a cI vals fil rb (nI t) wo cnt fn X) s s.heap [] := hpw.wi
  have hl : lv_has ls 3 [(0, .ref (a 1)), (1, .int (nI sl)), (2, .int (nI dy))] := hl
  suffices hgo : ∀ (H : Heap) (locs : List Loc), wi D z noA (cw a cI vals fil rb (nI t) wo cnt fn X) s H locs → ∀ ls : Array Slot, lv_has ls 3 [(0, .ref (a 1)), (1, .int (nI sl)), (2, .int (nI dy))] → W p l e (rmv 3 69) s m args below meth c H locs 0 0 Q (F0 m 0 ls []) from hgo _ _ hI ls hl
  intro H locs hI ls hl
  refine lv_aload_n hx hb dX0_startsRow_0 rfl (lv_at hl 0 rfl) ?_
  refine lv_iload_n hx hb dX0_startsRow_1 rfl (lv_at hl 1 rfl) ?_
  refine lv_iload_n hx hb dX0_startsRow_2 rfl (lv_at hl 2 rfl) ?_
  refine k_ro (run_v (As := [.int (nI sl), .int (nI dy)]) (rest := []) hF hK hI (c_X0_startsRun hA ht (by omega) (by omega)) cf_X0_startsRun k232 1 0 rfl rfl ⟨Nat.le_of_ble_eq_true rfl, Nat.le_of_ble_eq_true rfl⟩ ⟨rfl, rfl⟩ ⟨Nat.le_of_ble_eq_true rfl, Nat.le_of_ble_eq_true rfl⟩ rfl hl.1 rfl (Nat.le_of_ble_eq_true rfl) dX0_startsRow_3) hI (fun H locs hI => ?_)
  refine bz_ne (tgt := 11) hx hb dX0_startsRow_6 (by decide) (fun c6 => ?_) (fun c6 => ?_)
  · refine lv_iload_n hx hb dX0_startsRow_11 rfl (lv_at hl 1 rfl) ?_
    refine lv_iconst (v := nI 4) hx hb dX0_startsRow_12 (by decide) ?_
    refine nb_lt (tgt := 28) hx hb dX0_startsRow_13 (by decide) (by omega) (by omega) (fun c13 => ?_) (fun c13 => ?_)
    · refine lv_iconst (v := nI 1) hx hb dX0_startsRow_28 (by decide) ?_
      refine lv_goto (tgt := 33) hx hb dX0_startsRow_29 (by decide) ?_
      exact hret hI.2.2.2 dX0_startsRow_33 (bi_t (by simp_all [isRw])).symm
    · refine lv_aload_n hx hb dX0_startsRow_16 rfl (lv_at hl 0 rfl) ?_
      refine lv_iload_n hx hb dX0_startsRow_17 rfl (lv_at hl 1 rfl) ?_
      refine lv_iload_n hx hb dX0_startsRow_18 rfl (lv_at hl 1 rfl) ?_
      refine lv_iconst (v := nI 4) hx hb dX0_startsRow_19 (by decide) ?_
      refine lv_isub hx hb dX0_startsRow_20 ?_
      refine tp (pk_sub (by omega)) ?_
      refine lv_iload_n hx hb dX0_startsRow_21 rfl (lv_at hl 2 rfl) ?_
      have hs := beg_some c6
      refine k_ro (run_v (As := [.int (nI sl), .int (nI (sl - 4)), .int (nI dy)]) (rest := []) hF hK hI (c_X0_sharesRun hA ht (by omega) (by omega) (by omega) hs) cf_X0_sharesRun k240 1 0 rfl rfl ⟨Nat.le_of_ble_eq_true rfl, Nat.le_of_ble_eq_true rfl⟩ ⟨rfl, rfl⟩ ⟨Nat.le_of_ble_eq_true rfl, Nat.le_of_ble_eq_true rfl⟩ rfl hl.1 rfl (Nat.le_of_ble_eq_true rfl) dX0_startsRow_22) hI (fun H locs hI => ?_)
      refine bz_ne (tgt := 32) hx hb dX0_startsRow_25 (by decide) (fun c25 => ?_) (fun c25 => ?_)
      · refine lv_iconst (v := nI 0) hx hb dX0_startsRow_32 (by decide) ?_
        exact hret hI.2.2.2 dX0_startsRow_33 (bi_f (by simp_all [isRw])).symm
      · refine lv_iconst (v := nI 1) hx hb dX0_startsRow_28 (by decide) ?_
        refine lv_goto (tgt := 33) hx hb dX0_startsRow_29 (by decide) ?_
        exact hret hI.2.2.2 dX0_startsRow_33 (bi_t (by simp_all [isRw])).symm
  · refine lv_iconst (v := nI 0) hx hb dX0_startsRow_9 (by decide) ?_
    exact hret hI.2.2.2 dX0_startsRow_10 (bi_f (by simp_all [isRw])).symm
set_option maxHeartbeats 4000000 in
set_option maxRecDepth 100000 in
theorem c_X0_differ {l : Launch} {D : va_G} {cI cZ cJ : ClassId} {z : Nat} {a : Nat → Nat} {X : va_W} {vals fil rb : Nat → Int32} {t : Nat} {wo : Nat → Int32} {cnt fn : Int32} {S : Sta} (hA : cAbs S vals fil t) (ht : t < 40) {sl so dy : Nat} (h1 : sl < 4 * (t + 1)) (h3 : so < 4 * (t + 1)) (h2 : dy < 32) : roM l yX0_differ cX0_differ 5 (some .boolean) 1 22 [.ref (a 1), .int (nI sl), .int (nI so), .int (nI dy)] (pw D cI cZ cJ z (cw a cI vals fil rb (nI t) wo cnt fn X)) (bi (!(decide (S sl dy = S so dy)))) := by
  refine bd_rz (by decide) (Nat.le_of_ble_eq_true rfl) ?_
  intro p e s m args below meth c Q hF hpw hret ls hl
  obtain ⟨hx, hb, hml, hown, hts, hr, hlocks⟩ := id hF
  have hK := hpw.2.2.2
  have hI : wi D z noA (cw a cI vals fil rb (nI t) wo cnt fn X) s s.heap [] := hpw.wi
  have hl : lv_has ls 5 [(0, .ref (a 1)), (1, .int (nI sl)), (2, .int (nI so)), (3, .int (nI dy))] := hl
  suffices hgo : ∀ (H : Heap) (locs : List Loc), wi D z noA (cw a cI vals fil rb (nI t) wo cnt fn X) s H locs → ∀ ls : Array Slot, lv_has ls 5 [(0, .ref (a 1)), (1, .int (nI sl)), (2, .int (nI so)), (3, .int (nI dy))] → W p l e (rmv 1 22) s m args below meth c H locs 0 0 Q (F0 m 0 ls []) from hgo _ _ hI ls hl
  intro H locs hI ls hl
  refine lv_aload_n hx hb dX0_differ_0 rfl (lv_at hl 0 rfl) ?_
  refine lv_iload_n hx hb dX0_differ_1 rfl (lv_at hl 1 rfl) ?_
  refine lv_iload_n hx hb dX0_differ_2 rfl (lv_at hl 3 rfl) ?_
  refine k_ro (run_v (As := [.int (nI sl), .int (nI dy)]) (rest := []) hF hK hI (c_X0_isFilled hA ht (by omega) (by omega)) cf_X0_isFilled k223 1 0 rfl rfl ⟨Nat.le_of_ble_eq_true rfl, Nat.le_of_ble_eq_true rfl⟩ ⟨rfl, rfl⟩ ⟨Nat.le_of_ble_eq_true rfl, Nat.le_of_ble_eq_true rfl⟩ rfl hl.1 rfl (Nat.le_of_ble_eq_true rfl) dX0_differ_3) hI (fun H locs hI => ?_)
  refine lv_istore (lv' := [(4, .int (bi ((S sl dy).isSome))), (0, .ref (a 1)), (1, .int (nI sl)), (2, .int (nI so)), (3, .int (nI dy))]) hx hb dX0_differ_6 hl (by decide) rfl (fun ls hl => ?_)
  refine lv_iload hx hb dX0_differ_8 (lv_at hl 0 rfl) ?_
  refine lv_aload_n hx hb dX0_differ_10 rfl (lv_at hl 1 rfl) ?_
  refine lv_iload_n hx hb dX0_differ_11 rfl (lv_at hl 3 rfl) ?_
  refine lv_iload_n hx hb dX0_differ_12 rfl (lv_at hl 4 rfl) ?_
  refine k_ro (run_v (As := [.int (nI so), .int (nI dy)]) (rest := [.int (bi ((S sl dy).isSome))]) hF hK hI (c_X0_isFilled hA ht (by omega) (by omega)) cf_X0_isFilled k223 1 0 rfl rfl ⟨Nat.le_of_ble_eq_true rfl, Nat.le_of_ble_eq_true rfl⟩ ⟨rfl, rfl⟩ ⟨Nat.le_of_ble_eq_true rfl, Nat.le_of_ble_eq_true rfl⟩ rfl hl.1 rfl (Nat.le_of_ble_eq_true rfl) dX0_differ_13) hI (fun H locs hI => ?_)
  refine lv_icmp_eq (tgt := 21) hx hb dX0_differ_16 (by decide) (fun c16 => ?_) (fun c16 => ?_)
  · refine lv_iload hx hb dX0_differ_21 (lv_at hl 0 rfl) ?_
    refine bz_eq (tgt := 45) hx hb dX0_differ_23 (by decide) (fun c23 => ?_) (fun c23 => ?_)
    · refine lv_iconst (v := nI 0) hx hb dX0_differ_45 (by decide) ?_
      exact hret hI.2.2.2 dX0_differ_46 (bi_f (by first | exact dif_2 hA h1 h3 h2 (bi_inj c16) c23 c38 | exact dif_3 hA h1 h3 h2 (bi_inj c16) c23 c38 | exact dif_4 (bi_inj c16) c23)).symm
    · refine lv_aload_n hx hb dX0_differ_26 rfl (lv_at hl 1 rfl) ?_
      refine lv_iload_n hx hb dX0_differ_27 rfl (lv_at hl 2 rfl) ?_
      refine lv_iload_n hx hb dX0_differ_28 rfl (lv_at hl 4 rfl) ?_
      refine k_ro (run_v (As := [.int (nI sl), .int (nI dy)]) (rest := []) hF hK hI (c_X0_valueOn ht (by omega) (by omega)) cf_X0_valueOn k244 1 0 rfl rfl ⟨Nat.le_of_ble_eq_true rfl, Nat.le_of_ble_eq_true rfl⟩ ⟨rfl, rfl⟩ ⟨Nat.le_of_ble_eq_true rfl, Nat.le_of_ble_eq_true rfl⟩ rfl hl.1 rfl (Nat.le_of_ble_eq_true rfl) dX0_differ_29) hI (fun H locs hI => ?_)
      refine lv_aload_n hx hb dX0_differ_32 rfl (lv_at hl 1 rfl) ?_
      refine lv_iload_n hx hb dX0_differ_33 rfl (lv_at hl 3 rfl) ?_
      refine lv_iload_n hx hb dX0_differ_34 rfl (lv_at hl 4 rfl) ?_
      refine k_ro (run_v (As := [.int (nI so), .int (nI dy)]) (rest := [.int (vals (sl * 32 + dy))]) hF hK hI (c_X0_valueOn ht (by omega) (by omega)) cf_X0_valueOn k244 1 0 rfl rfl ⟨Nat.le_of_ble_eq_true rfl, Nat.le_of_ble_eq_true rfl⟩ ⟨rfl, rfl⟩ ⟨Nat.le_of_ble_eq_true rfl, Nat.le_of_ble_eq_true rfl⟩ rfl hl.1 rfl (Nat.le_of_ble_eq_true rfl) dX0_differ_35) hI (fun H locs hI => ?_)
      refine lv_icmp_eq (tgt := 45) hx hb dX0_differ_38 (by decide) (fun c38 => ?_) (fun c38 => ?_)
      · refine lv_iconst (v := nI 0) hx hb dX0_differ_45 (by decide) ?_
        exact hret hI.2.2.2 dX0_differ_46 (bi_f (by first | exact dif_2 hA h1 h3 h2 (bi_inj c16) c23 c38 | exact dif_3 hA h1 h3 h2 (bi_inj c16) c23 c38 | exact dif_4 (bi_inj c16) c23)).symm
      · refine lv_iconst (v := nI 1) hx hb dX0_differ_41 (by decide) ?_
        refine lv_goto (tgt := 46) hx hb dX0_differ_42 (by decide) ?_
        exact hret hI.2.2.2 dX0_differ_46 (bi_t (by first | exact dif_2 hA h1 h3 h2 (bi_inj c16) c23 c38 | exact dif_3 hA h1 h3 h2 (bi_inj c16) c23 c38 | exact dif_4 (bi_inj c16) c23)).symm
  · refine lv_iconst (v := nI 1) hx hb dX0_differ_19 (by decide) ?_
    exact hret hI.2.2.2 dX0_differ_20 (bi_t (by exact dif_1 c16)).symm
set_option maxHeartbeats 4000000 in
set_option maxRecDepth 100000 in
theorem c_X0_runStart {l : Launch} {D : va_G} {cI cZ cJ : ClassId} {z : Nat} {a : Nat → Nat} {X : va_W} {vals fil rb : Nat → Int32} {t : Nat} {wo : Nat → Int32} {cnt fn : Int32} {S : Sta} (hA : cAbs S vals fil t) (ht : t < 40) {sl : Nat} (h1 : sl < 4 * (t + 1)) {i k : Nat} (hi : i < 32) (hb0 : beg S sl i = true) (hk : fb_ct (beg S sl) i = k) : roM l yX0_runStart cX0_runStart 5 (some .int) 2 45 [.ref (a 1), .int (nI sl), .int (nI k)] (pw D cI cZ cJ z (cw a cI vals fil rb (nI t) wo cnt fn X)) (nI i) := by
  refine bd_ro (by decide) (Nat.le_of_ble_eq_true rfl) ?_
  intro p e s m args below meth c Q hF hpw hret ls hl
  obtain ⟨hx, hb, hml, hown, hts, hr, hlocks⟩ := id hF
  have hK := hpw.2.2.2
  have hI : wi D z noA (cw a cI vals fil rb (nI t) wo cnt fn X) s s.heap [] := hpw.wi
  have hl : lv_has ls 5 [(0, .ref (a 1)), (1, .int (nI sl)), (2, .int (nI k))] := hl
  suffices hgo : ∀ (H : Heap) (locs : List Loc), wi D z noA (cw a cI vals fil rb (nI t) wo cnt fn X) s H locs → ∀ ls : Array Slot, lv_has ls 5 [(0, .ref (a 1)), (1, .int (nI sl)), (2, .int (nI k))] → W p l e (rmv 2 45) s m args below meth c H locs 0 0 Q (F0 m 0 ls []) from hgo _ _ hI ls hl
  intro H locs hI ls hl
  refine lv_iload_n hx hb dX0_runStart_0 rfl (lv_at hl 2 rfl) ?_
  refine lv_istore_n (lv' := [(3, .int (nI k)), (0, .ref (a 1)), (1, .int (nI sl)), (2, .int (nI k))]) hx hb dX0_runStart_1 rfl hl (by decide) rfl (fun ls hl => ?_)
  refine lv_iconst (v := nI 0) hx hb dX0_runStart_2 (by decide) ?_
  refine lv_istore (lv' := [(4, .int (nI 0)), (3, .int (nI k)), (0, .ref (a 1)), (1, .int (nI sl)), (2, .int (nI k))]) hx hb dX0_runStart_3 hl (by decide) rfl (fun ls hl => ?_)
  have J5 : ∀ (n5_ : Nat) (dy : Nat) (n3 : Nat) (hd : dy ≤ i) (hn : n3 + fb_ct (beg S sl) dy = k) (hm5 : 31 < dy + n5_) (H : Heap) (locs : List Loc), wi D z noA (cw a cI vals fil rb (nI t) wo cnt fn X) s H locs → ∀ ls : Array Slot, lv_has ls 5 [(0, .ref (a 1)), (1, .int (nI sl)), (2, .int (nI k)), (3, .int (nI n3)), (4, .int (nI dy))] → W p l e (rmv 2 45) s m args below meth c H locs 0 0 Q (F0 m 5 ls []) := by
    intro n5_
    induction n5_ with
    | zero => intro dy n3 hd hn hm5; exact absurd hm5 (by omega)
    | succ n5_ ih5 =>
      intro dy n3 hd hn hm5 H locs hI ls hl
      refine lv_iload hx hb dX0_runStart_5 (lv_at hl 4 rfl) ?_
      refine lv_bipush (v := nI 32) hx hb dX0_runStart_7 (by decide) ?_
      refine nb_ge (tgt := 38) hx hb dX0_runStart_9 (by decide) (by omega) (by omega) (fun c9 => ?_) (fun c9 => ?_)
      · refine lv_iconst (v := -1) hx hb dX0_runStart_38 (by decide) ?_
        exact hret hI.2.2.2 dX0_runStart_39 ((absurd hd (by omega)))
      · have g0 := fb_ct_mono (beg S sl) hd
        refine lv_aload_n hx hb dX0_runStart_12 rfl (lv_at hl 0 rfl) ?_
        refine lv_iload_n hx hb dX0_runStart_13 rfl (lv_at hl 1 rfl) ?_
        refine lv_iload hx hb dX0_runStart_14 (lv_at hl 4 rfl) ?_
        refine k_ro (run_v (As := [.int (nI sl), .int (nI dy)]) (rest := []) hF hK hI (c_X0_startsRun hA ht (by omega) (by omega)) cf_X0_startsRun k232 1 0 rfl rfl ⟨Nat.le_of_ble_eq_true rfl, Nat.le_of_ble_eq_true rfl⟩ ⟨rfl, rfl⟩ ⟨Nat.le_of_ble_eq_true rfl, Nat.le_of_ble_eq_true rfl⟩ rfl hl.1 rfl (Nat.le_of_ble_eq_true rfl) dX0_runStart_16) hI (fun H locs hI => ?_)
        refine bz_eq (tgt := 32) hx hb dX0_runStart_19 (by decide) (fun c19 => ?_) (fun c19 => ?_)
        · refine lv_iinc (v := nI (dy + 1)) (lv' := [(4, .int (nI (dy + 1))), (0, .ref (a 1)), (1, .int (nI sl)), (2, .int (nI k)), (3, .int (nI n3))]) hx hb dX0_runStart_32 hl (k := 4) rfl (inc_n _ 1) (by decide) rfl (fun ls hl => ?_)
          refine lv_goto (tgt := 5) hx hb dX0_runStart_35 (by decide) ?_
          exact ih5 (dy + 1) n3 (by have g9 : dy ≠ i := (by intro q9; subst q9; simp_all); omega) (by rw [fb_ct_succ, c19]; simp; omega) (by omega) H locs hI ls (lv_sub hl [1, 2, 3, 4, 0] rfl)
        · refine lv_iload_n hx hb dX0_runStart_22 rfl (lv_at hl 3 rfl) ?_
          have g1 := fb_ct_le (beg S sl) i
          refine nz_ne (tgt := 29) hx hb dX0_runStart_23 (by decide) (by omega) (fun c23 => ?_) (fun c23 => ?_)
          · refine lv_iinc (v := nI (n3 - 1)) (lv' := [(3, .int (nI (n3 - 1))), (0, .ref (a 1)), (1, .int (nI sl)), (2, .int (nI k)), (4, .int (nI dy))]) hx hb dX0_runStart_29 hl (k := 3) rfl (dec_n (n := 1) (by omega)) (by decide) rfl (fun ls hl => ?_)
            refine lv_iinc (v := nI (dy + 1)) (lv' := [(4, .int (nI (dy + 1))), (3, .int (nI (n3 - 1))), (0, .ref (a 1)), (1, .int (nI sl)), (2, .int (nI k))]) hx hb dX0_runStart_32 hl (k := 4) rfl (inc_n _ 1) (by decide) rfl (fun ls hl => ?_)
            refine lv_goto (tgt := 5) hx hb dX0_runStart_35 (by decide) ?_
            exact ih5 (dy + 1) (n3 - 1) (by have g9 : dy ≠ i := (by intro q9; subst q9; simp_all); omega) (by rw [fb_ct_succ, c19]; simp; omega) (by omega) H locs hI ls (lv_sub hl [2, 3, 4, 1, 0] rfl)
          · refine lv_iload hx hb dX0_runStart_26 (lv_at hl 4 rfl) ?_
            exact hret hI.2.2.2 dX0_runStart_28 ((by rw [fb_ct_kth_one (p := beg S sl) c19 hb0 (by omega)]))
  exact J5 (31 + 1) 0 k (by omega) rfl (by omega) H locs hI ls (lv_sub hl [2, 3, 4, 1, 0] rfl)
set_option maxHeartbeats 4000000 in
set_option maxRecDepth 100000 in
theorem c_X0_rowStart {l : Launch} {D : va_G} {cI cZ cJ : ClassId} {z : Nat} {a : Nat → Nat} {X : va_W} {vals fil rb : Nat → Int32} {t : Nat} {wo : Nat → Int32} {cnt fn : Int32} {S : Sta} (hA : cAbs S vals fil t) (ht : t < 40) {sl : Nat} (h1 : sl < 4 * (t + 1)) {i k : Nat} (hi : i < 32) (hb0 : isRw S sl i = true) (hk : fb_ct (isRw S sl) i = k) : roM l yX0_rowStart cX0_rowStart 5 (some .int) 4 91 [.ref (a 1), .int (nI sl), .int (nI k)] (pw D cI cZ cJ z (cw a cI vals fil rb (nI t) wo cnt fn X)) (nI i) := by
  refine bd_ro (by decide) (Nat.le_of_ble_eq_true rfl) ?_
  intro p e s m args below meth c Q hF hpw hret ls hl
  obtain ⟨hx, hb, hml, hown, hts, hr, hlocks⟩ := id hF
  have hK := hpw.2.2.2
  have hI : wi D z noA (cw a cI vals fil rb (nI t) wo cnt fn X) s s.heap [] := hpw.wi
  have hl : lv_has ls 5 [(0, .ref (a 1)), (1, .int (nI sl)), (2, .int (nI k))] := hl
  suffices hgo : ∀ (H : Heap) (locs : List Loc), wi D z noA (cw a cI vals fil rb (nI t) wo cnt fn X) s H locs → ∀ ls : Array Slot, lv_has ls 5 [(0, .ref (a 1)), (1, .int (nI sl)), (2, .int (nI k))] → W p l e (rmv 4 91) s m args below meth c H locs 0 0 Q (F0 m 0 ls []) from hgo _ _ hI ls hl
  intro H locs hI ls hl
  refine lv_iload_n hx hb dX0_rowStart_0 rfl (lv_at hl 2 rfl) ?_
  refine lv_istore_n (lv' := [(3, .int (nI k)), (0, .ref (a 1)), (1, .int (nI sl)), (2, .int (nI k))]) hx hb dX0_rowStart_1 rfl hl (by decide) rfl (fun ls hl => ?_)
  refine lv_iconst (v := nI 0) hx hb dX0_rowStart_2 (by decide) ?_
  refine lv_istore (lv' := [(4, .int (nI 0)), (3, .int (nI k)), (0, .ref (a 1)), (1, .int (nI sl)), (2, .int (nI k))]) hx hb dX0_rowStart_3 hl (by decide) rfl (fun ls hl => ?_)
  have J5 : ∀ (n5_ : Nat) (dy : Nat) (n3 : Nat) (hd : dy ≤ i) (hn : n3 + fb_ct (isRw S sl) dy = k) (hm5 : 31 < dy + n5_) (H : Heap) (locs : List Loc), wi D z noA (cw a cI vals fil rb (nI t) wo cnt fn X) s H locs → ∀ ls : Array Slot, lv_has ls 5 [(0, .ref (a 1)), (1, .int (nI sl)), (2, .int (nI k)), (3, .int (nI n3)), (4, .int (nI dy))] → W p l e (rmv 4 91) s m args below meth c H locs 0 0 Q (F0 m 5 ls []) := by
    intro n5_
    induction n5_ with
    | zero => intro dy n3 hd hn hm5; exact absurd hm5 (by omega)
    | succ n5_ ih5 =>
      intro dy n3 hd hn hm5 H locs hI ls hl
      refine lv_iload hx hb dX0_rowStart_5 (lv_at hl 4 rfl) ?_
      refine lv_bipush (v := nI 32) hx hb dX0_rowStart_7 (by decide) ?_
      refine nb_ge (tgt := 38) hx hb dX0_rowStart_9 (by decide) (by omega) (by omega) (fun c9 => ?_) (fun c9 => ?_)
      · refine lv_iconst (v := nI 0) hx hb dX0_rowStart_38 (by decide) ?_
        exact hret hI.2.2.2 dX0_rowStart_39 ((absurd hd (by omega)))
      · have g0 := fb_ct_mono (isRw S sl) hd
        refine lv_aload_n hx hb dX0_rowStart_12 rfl (lv_at hl 0 rfl) ?_
        refine lv_iload_n hx hb dX0_rowStart_13 rfl (lv_at hl 1 rfl) ?_
        refine lv_iload hx hb dX0_rowStart_14 (lv_at hl 4 rfl) ?_
        refine k_ro (run_v (As := [.int (nI sl), .int (nI dy)]) (rest := []) hF hK hI (c_X0_startsRow hA ht (by omega) (by omega)) cf_X0_startsRow k228 1 0 rfl rfl ⟨Nat.le_of_ble_eq_true rfl, Nat.le_of_ble_eq_true rfl⟩ ⟨rfl, rfl⟩ ⟨Nat.le_of_ble_eq_true rfl, Nat.le_of_ble_eq_true rfl⟩ rfl hl.1 rfl (Nat.le_of_ble_eq_true rfl) dX0_rowStart_16) hI (fun H locs hI => ?_)
        refine bz_eq (tgt := 32) hx hb dX0_rowStart_19 (by decide) (fun c19 => ?_) (fun c19 => ?_)
        · refine lv_iinc (v := nI (dy + 1)) (lv' := [(4, .int (nI (dy + 1))), (0, .ref (a 1)), (1, .int (nI sl)), (2, .int (nI k)), (3, .int (nI n3))]) hx hb dX0_rowStart_32 hl (k := 4) rfl (inc_n _ 1) (by decide) rfl (fun ls hl => ?_)
          refine lv_goto (tgt := 5) hx hb dX0_rowStart_35 (by decide) ?_
          exact ih5 (dy + 1) n3 (by have g9 : dy ≠ i := (by intro q9; subst q9; simp_all); omega) (by rw [fb_ct_succ, c19]; simp; omega) (by omega) H locs hI ls (lv_sub hl [1, 2, 3, 4, 0] rfl)
        · refine lv_iload_n hx hb dX0_rowStart_22 rfl (lv_at hl 3 rfl) ?_
          have g1 := fb_ct_le (isRw S sl) i
          refine nz_ne (tgt := 29) hx hb dX0_rowStart_23 (by decide) (by omega) (fun c23 => ?_) (fun c23 => ?_)
          · refine lv_iinc (v := nI (n3 - 1)) (lv' := [(3, .int (nI (n3 - 1))), (0, .ref (a 1)), (1, .int (nI sl)), (2, .int (nI k)), (4, .int (nI dy))]) hx hb dX0_rowStart_29 hl (k := 3) rfl (dec_n (n := 1) (by omega)) (by decide) rfl (fun ls hl => ?_)
            refine lv_iinc (v := nI (dy + 1)) (lv' := [(4, .int (nI (dy + 1))), (3, .int (nI (n3 - 1))), (0, .ref (a 1)), (1, .int (nI sl)), (2, .int (nI k))]) hx hb dX0_rowStart_32 hl (k := 4) rfl (inc_n _ 1) (by decide) rfl (fun ls hl => ?_)
            refine lv_goto (tgt := 5) hx hb dX0_rowStart_35 (by decide) ?_
            exact ih5 (dy + 1) (n3 - 1) (by have g9 : dy ≠ i := (by intro q9; subst q9; simp_all); omega) (by rw [fb_ct_succ, c19]; simp; omega) (by omega) H locs hI ls (lv_sub hl [2, 3, 4, 1, 0] rfl)
          · refine lv_iload hx hb dX0_rowStart_26 (lv_at hl 4 rfl) ?_
            exact hret hI.2.2.2 dX0_rowStart_28 ((by rw [fb_ct_kth_one (p := isRw S sl) c19 hb0 (by omega)]))
  exact J5 (31 + 1) 0 k (by omega) rfl (by omega) H locs hI ls (lv_sub hl [2, 3, 4, 1, 0] rfl)
set_option maxHeartbeats 4000000 in
set_option maxRecDepth 100000 in
theorem c_X0_countRelated {l : Launch} {D : va_G} {cI cZ cJ : ClassId} {z : Nat} {a : Nat → Nat} {X : va_W} {vals fil rb : Nat → Int32} {t : Nat} {wo : Nat → Int32} {cnt fn : Int32} {S : Sta} (hA : cAbs S vals fil t) (ht : t < 40) {sl : Nat} (h1 : sl < 4 * (t + 1)) {fr to r : Nat} (h3 : fr < to) (h4 : to ≤ 32) (h5 : r ≤ 12) : roM l yX0_countRelated cX0_countRelated 7 (some .int) 2 47 [.ref (a 1), .int (nI fr), .int (nI to), .int (nI sl), .int (nI r)] (pw D cI cZ cJ z (cw a cI vals fil rb (nI t) wo cnt fn X)) (nI (fb_ct (fun y => beg S sl y && decide (rel fr to y (rend S sl y) = r)) 32)) := by
  refine bd_ro (by decide) (Nat.le_of_ble_eq_true rfl) ?_
  intro p e s m args below meth c Q hF hpw hret ls hl
  obtain ⟨hx, hb, hml, hown, hts, hr, hlocks⟩ := id hF
  have hK := hpw.2.2.2
  have hI : wi D z noA (cw a cI vals fil rb (nI t) wo cnt fn X) s s.heap [] := hpw.wi
  have hl : lv_has ls 7 [(0, .ref (a 1)), (1, .int (nI fr)), (2, .int (nI to)), (3, .int (nI sl)), (4, .int (nI r))] := hl
  suffices hgo : ∀ (H : Heap) (locs : List Loc), wi D z noA (cw a cI vals fil rb (nI t) wo cnt fn X) s H locs → ∀ ls : Array Slot, lv_has ls 7 [(0, .ref (a 1)), (1, .int (nI fr)), (2, .int (nI to)), (3, .int (nI sl)), (4, .int (nI r))] → W p l e (rmv 2 47) s m args below meth c H locs 0 0 Q (F0 m 0 ls []) from hgo _ _ hI ls hl
  intro H locs hI ls hl
  refine lv_iconst (v := nI 0) hx hb dX0_countRelated_0 (by decide) ?_
  refine lv_istore (lv' := [(5, .int (nI 0)), (0, .ref (a 1)), (1, .int (nI fr)), (2, .int (nI to)), (3, .int (nI sl)), (4, .int (nI r))]) hx hb dX0_countRelated_1 hl (by decide) rfl (fun ls hl => ?_)
  refine lv_iconst (v := nI 0) hx hb dX0_countRelated_3 (by decide) ?_
  refine lv_istore (lv' := [(6, .int (nI 0)), (5, .int (nI 0)), (0, .ref (a 1)), (1, .int (nI fr)), (2, .int (nI to)), (3, .int (nI sl)), (4, .int (nI r))]) hx hb dX0_countRelated_4 hl (by decide) rfl (fun ls hl => ?_)
  have J6 : ∀ (n6_ : Nat) (dy : Nat) (n2 : Nat) (hd : dy ≤ 32) (hn : n2 = fb_ct (fun y => beg S sl y && decide (rel fr to y (rend S sl y) = r)) dy) (hm6 : 32 < dy + n6_) (H : Heap) (locs : List Loc), wi D z noA (cw a cI vals fil rb (nI t) wo cnt fn X) s H locs → ∀ ls : Array Slot, lv_has ls 7 [(0, .ref (a 1)), (1, .int (nI fr)), (2, .int (nI to)), (3, .int (nI sl)), (4, .int (nI r)), (5, .int (nI n2)), (6, .int (nI dy))] → W p l e (rmv 2 47) s m args below meth c H locs 0 0 Q (F0 m 6 ls []) := by
    intro n6_
    induction n6_ with
    | zero => intro dy n2 hd hn hm6; exact absurd hm6 (by omega)
    | succ n6_ ih6 =>
      intro dy n2 hd hn hm6 H locs hI ls hl
      refine lv_iload hx hb dX0_countRelated_6 (lv_at hl 6 rfl) ?_
      refine lv_bipush (v := nI 32) hx hb dX0_countRelated_8 (by decide) ?_
      refine nb_ge (tgt := 51) hx hb dX0_countRelated_10 (by decide) (by omega) (by omega) (fun c10 => ?_) (fun c10 => ?_)
      · refine lv_iload hx hb dX0_countRelated_51 (lv_at hl 5 rfl) ?_
        exact hret hI.2.2.2 dX0_countRelated_53 ((by rw [hn, show dy = 32 by omega]))
      · refine lv_aload_n hx hb dX0_countRelated_13 rfl (lv_at hl 0 rfl) ?_
        refine lv_iload_n hx hb dX0_countRelated_14 rfl (lv_at hl 3 rfl) ?_
        refine lv_iload hx hb dX0_countRelated_15 (lv_at hl 6 rfl) ?_
        refine k_ro (run_v (As := [.int (nI sl), .int (nI dy)]) (rest := []) hF hK hI (c_X0_startsRun hA ht (by omega) (by omega)) cf_X0_startsRun k232 1 0 rfl rfl ⟨Nat.le_of_ble_eq_true rfl, Nat.le_of_ble_eq_true rfl⟩ ⟨rfl, rfl⟩ ⟨Nat.le_of_ble_eq_true rfl, Nat.le_of_ble_eq_true rfl⟩ rfl hl.1 rfl (Nat.le_of_ble_eq_true rfl) dX0_countRelated_17) hI (fun H locs hI => ?_)
        refine bz_eq (tgt := 45) hx hb dX0_countRelated_20 (by decide) (fun c20 => ?_) (fun c20 => ?_)
        · refine lv_iinc (v := nI (dy + 1)) (lv' := [(6, .int (nI (dy + 1))), (0, .ref (a 1)), (1, .int (nI fr)), (2, .int (nI to)), (3, .int (nI sl)), (4, .int (nI r)), (5, .int (nI n2))]) hx hb dX0_countRelated_45 hl (k := 6) rfl (inc_n _ 1) (by decide) rfl (fun ls hl => ?_)
          refine lv_goto (tgt := 6) hx hb dX0_countRelated_48 (by decide) ?_
          exact ih6 (dy + 1) n2 (by omega) (by rw [fb_ct_succ, hn, c20]; simp_all) (by omega) H locs hI ls (lv_sub hl [1, 2, 3, 4, 5, 6, 0] rfl)
        · refine lv_iload_n hx hb dX0_countRelated_23 rfl (lv_at hl 1 rfl) ?_
          refine lv_iload_n hx hb dX0_countRelated_24 rfl (lv_at hl 2 rfl) ?_
          refine lv_iload hx hb dX0_countRelated_25 (lv_at hl 6 rfl) ?_
          refine lv_aload_n hx hb dX0_countRelated_27 rfl (lv_at hl 0 rfl) ?_
          refine lv_iload_n hx hb dX0_countRelated_28 rfl (lv_at hl 3 rfl) ?_
          refine lv_iload hx hb dX0_countRelated_29 (lv_at hl 6 rfl) ?_
          refine k_ro (run_v (As := [.int (nI sl), .int (nI dy)]) (rest := [.int (nI dy), .int (nI to), .int (nI fr)]) hF hK hI (c_X0_runEnd hA ht (by omega) (by omega)) cf_X0_runEnd k248 1 0 rfl rfl ⟨Nat.le_of_ble_eq_true rfl, Nat.le_of_ble_eq_true rfl⟩ ⟨rfl, rfl⟩ ⟨Nat.le_of_ble_eq_true rfl, Nat.le_of_ble_eq_true rfl⟩ rfl hl.1 rfl (Nat.le_of_ble_eq_true rfl) dX0_countRelated_31) hI (fun H locs hI => ?_)
          have g1 := rend_in (S := S) (sl := sl) (dy := dy) (by omega)
          refine k_ro (run_n (As := [.int (nI fr), .int (nI to), .int (nI dy), .int (nI (rend S sl dy))]) (rest := []) hF (c_X2_relationOf (by omega) (by omega) (by omega) (by omega) (by omega) (by omega)) tt_blind (fun _ _ _ => trivial) cf_X2_relationOf hK.2.2.2.2.2.2 ⟨Nat.le_of_ble_eq_true rfl, Nat.le_of_ble_eq_true rfl⟩ ⟨rfl, rfl⟩ ⟨Nat.le_of_ble_eq_true rfl, Nat.le_of_ble_eq_true rfl⟩ rfl hl.1 rfl (Nat.le_of_ble_eq_true rfl) dX0_countRelated_34) hI (fun H locs hI => ?_)
          refine lv_iload hx hb dX0_countRelated_37 (lv_at hl 4 rfl) ?_
          have g2 := rel_le fr to dy (rend S sl dy)
          refine nb_ne (tgt := 45) hx hb dX0_countRelated_39 (by decide) (by omega) (by omega) (fun c39 => ?_) (fun c39 => ?_)
          · refine lv_iinc (v := nI (dy + 1)) (lv' := [(6, .int (nI (dy + 1))), (0, .ref (a 1)), (1, .int (nI fr)), (2, .int (nI to)), (3, .int (nI sl)), (4, .int (nI r)), (5, .int (nI n2))]) hx hb dX0_countRelated_45 hl (k := 6) rfl (inc_n _ 1) (by decide) rfl (fun ls hl => ?_)
            refine lv_goto (tgt := 6) hx hb dX0_countRelated_48 (by decide) ?_
            exact ih6 (dy + 1) n2 (by omega) (by rw [fb_ct_succ, hn, c20]; simp_all) (by omega) H locs hI ls (lv_sub hl [1, 2, 3, 4, 5, 6, 0] rfl)
          · refine lv_iinc (v := nI (n2 + 1)) (lv' := [(5, .int (nI (n2 + 1))), (0, .ref (a 1)), (1, .int (nI fr)), (2, .int (nI to)), (3, .int (nI sl)), (4, .int (nI r)), (6, .int (nI dy))]) hx hb dX0_countRelated_42 hl (k := 5) rfl (inc_n _ 1) (by decide) rfl (fun ls hl => ?_)
            refine lv_iinc (v := nI (dy + 1)) (lv' := [(6, .int (nI (dy + 1))), (5, .int (nI (n2 + 1))), (0, .ref (a 1)), (1, .int (nI fr)), (2, .int (nI to)), (3, .int (nI sl)), (4, .int (nI r))]) hx hb dX0_countRelated_45 hl (k := 6) rfl (inc_n _ 1) (by decide) rfl (fun ls hl => ?_)
            refine lv_goto (tgt := 6) hx hb dX0_countRelated_48 (by decide) ?_
            exact ih6 (dy + 1) (n2 + 1) (by omega) (by rw [fb_ct_succ, hn, c20]; simp_all) (by omega) H locs hI ls (lv_sub hl [2, 3, 4, 5, 6, 1, 0] rfl)
  exact J6 (32 + 1) 0 0 (by omega) rfl (by omega) H locs hI ls (lv_sub hl [2, 3, 4, 5, 6, 1, 0] rfl)
set_option maxHeartbeats 4000000 in
set_option maxRecDepth 100000 in
theorem c_X0_countRows {l : Launch} {D : va_G} {cI cZ cJ : ClassId} {z : Nat} {a : Nat → Nat} {X : va_W} {vals fil rb : Nat → Int32} {t : Nat} {wo : Nat → Int32} {cnt fn : Int32} {S : Sta} (hA : cAbs S vals fil t) (ht : t < 40) (hR : ∀ x, x < 4 * (t + 1) → rb x = nI (rowsIn S x)) : roM l yX0_countRows cX0_countRows 3 (some .int) 0 0 [.ref (a 1)] (pw D cI cZ cJ z (cw a cI vals fil rb (nI t) wo cnt fn X)) (nI (rowsTo S (4 * (t + 1)))) := by
  refine bd_ro (by decide) (Nat.le_of_ble_eq_true rfl) ?_
  intro p e s m args below meth c Q hF hpw hret ls hl
  obtain ⟨hx, hb, hml, hown, hts, hr, hlocks⟩ := id hF
  have hK := hpw.2.2.2
  have hI : wi D z noA (cw a cI vals fil rb (nI t) wo cnt fn X) s s.heap [] := hpw.wi
  have hl : lv_has ls 3 [(0, .ref (a 1))] := hl
  suffices hgo : ∀ (H : Heap) (locs : List Loc), wi D z noA (cw a cI vals fil rb (nI t) wo cnt fn X) s H locs → ∀ ls : Array Slot, lv_has ls 3 [(0, .ref (a 1))] → W p l e (rmv 0 0) s m args below meth c H locs 0 0 Q (F0 m 0 ls []) from hgo _ _ hI ls hl
  intro H locs hI ls hl
  refine lv_iconst (v := nI 0) hx hb dX0_countRows_0 (by decide) ?_
  refine lv_istore_n (lv' := [(1, .int (nI 0)), (0, .ref (a 1))]) hx hb dX0_countRows_1 rfl hl (by decide) rfl (fun ls hl => ?_)
  refine lv_iconst (v := nI 0) hx hb dX0_countRows_2 (by decide) ?_
  refine lv_istore_n (lv' := [(2, .int (nI 0)), (1, .int (nI 0)), (0, .ref (a 1))]) hx hb dX0_countRows_3 rfl hl (by decide) rfl (fun ls hl => ?_)
  have J4 : ∀ (n4_ : Nat) (x : Nat) (n1 : Nat) (hx1 : x ≤ 4 * (t + 1)) (hn : n1 = rowsTo S x) (hm4 : 4 * (t + 1) < x + n4_) (H : Heap) (locs : List Loc), wi D z noA (cw a cI vals fil rb (nI t) wo cnt fn X) s H locs → ∀ ls : Array Slot, lv_has ls 3 [(0, .ref (a 1)), (1, .int (nI n1)), (2, .int (nI x))] → W p l e (rmv 0 0) s m args below meth c H locs 0 0 Q (F0 m 4 ls []) := by
    intro n4_
    induction n4_ with
    | zero => intro x n1 hx1 hn hm4; exact absurd hm4 (by omega)
    | succ n4_ ih4 =>
      intro x n1 hx1 hn hm4 H locs hI ls hl
      refine lv_iload_n hx hb dX0_countRows_4 rfl (lv_at hl 2 rfl) ?_
      refine lv_aload_n hx hb dX0_countRows_5 rfl (lv_at hl 0 rfl) ?_
      refine va_get (D := D) (ci := 0) (v := .int (nI t)) (C := RX0) (T := TX0) (N := 4) hx hb hts inX0 hown hK.1 hI.2.1 1 rfl rfl 3 (by decide) (hts _ k30) (fun _ h9 => h9) rfl dX0_countRows_6 ?_
      refine lv_iconst (v := nI 1) hx hb dX0_countRows_9 (by decide) ?_
      refine lv_iadd hx hb dX0_countRows_10 ?_
      refine tp (nI_add _ _) ?_
      refine lv_iconst (v := nI 4) hx hb dX0_countRows_11 (by decide) ?_
      refine lv_imul hx hb dX0_countRows_12 ?_
      refine tp (pk_mul _ _) ?_
      refine nb_ge (tgt := 31) hx hb dX0_countRows_13 (by decide) (by omega) (by omega) (fun c13 => ?_) (fun c13 => ?_)
      · refine lv_iload_n hx hb dX0_countRows_31 rfl (lv_at hl 1 rfl) ?_
        exact hret hI.2.2.2 dX0_countRows_32 ((by rw [hn, show x = 4 * (t + 1) by omega]))
      · refine lv_iload_n hx hb dX0_countRows_16 rfl (lv_at hl 1 rfl) ?_
        refine lv_aload_n hx hb dX0_countRows_17 rfl (lv_at hl 0 rfl) ?_
        refine va_get (D := D) (ci := 0) (v := .ref (a 4)) (C := RX0) (T := TX0) (N := 4) hx hb hts inX0 hown hK.1 hI.2.1 1 rfl rfl 2 (by decide) (hts _ k29) (fun _ h9 => h9) rfl dX0_countRows_18 ?_
        refine lv_iload_n hx hb dX0_countRows_21 rfl (lv_at hl 2 rfl) ?_
        refine ia_ld (f := rb) (k := x) hx hb hK hI 4 rfl dX0_countRows_22 (by omega) (by decide) ?_
        refine tp (hR x (by omega)) ?_
        refine lv_iadd hx hb dX0_countRows_23 ?_
        refine tp (nI_add _ _) ?_
        refine lv_istore_n (lv' := [(1, .int (nI (n1 + (rowsIn S x)))), (0, .ref (a 1)), (2, .int (nI x))]) hx hb dX0_countRows_24 rfl hl (by decide) rfl (fun ls hl => ?_)
        refine lv_iinc (v := nI (x + 1)) (lv' := [(2, .int (nI (x + 1))), (1, .int (nI (n1 + (rowsIn S x)))), (0, .ref (a 1))]) hx hb dX0_countRows_25 hl (k := 2) rfl (inc_n _ 1) (by decide) rfl (fun ls hl => ?_)
        refine lv_goto (tgt := 4) hx hb dX0_countRows_28 (by decide) ?_
        exact ih4 (x + 1) (n1 + (rowsIn S x)) (by omega) (by rw [hn]; rfl) (by omega) H locs hI ls (lv_sub hl [2, 1, 0] rfl)
  exact J4 (4 * (t + 1) + 1) 0 0 (by omega) rfl (by omega) H locs hI ls (lv_sub hl [2, 1, 0] rfl)
set_option maxHeartbeats 4000000 in
set_option maxRecDepth 100000 in
theorem c_X0_rowEnd {l : Launch} {D : va_G} {cI cZ cJ : ClassId} {z : Nat} {a : Nat → Nat} {X : va_W} {vals fil rb : Nat → Int32} {t : Nat} {wo : Nat → Int32} {cnt fn : Int32} {S : Sta} (hA : cAbs S vals fil t) (ht : t < 40) {tm ky dy : Nat} (h1 : tm ≤ t) (h3 : ky < 4) (h2 : dy < 32) (hs : (S (tm * 4 + ky) dy).isSome = true) : roM l yX0_rowEnd cX0_rowEnd 6 (some .int) 3 69 [.ref (a 1), .int (nI tm), .int (nI ky), .int (nI dy)] (pw D cI cZ cJ z (cw a cI vals fil rb (nI t) wo cnt fn X)) (endV S t tm ky dy) := by
  refine bd_ro (by decide) (Nat.le_of_ble_eq_true rfl) ?_
  intro p e s m args below meth c Q hF hpw hret ls hl
  obtain ⟨hx, hb, hml, hown, hts, hr, hlocks⟩ := id hF
  have hK := hpw.2.2.2
  have hI : wi D z noA (cw a cI vals fil rb (nI t) wo cnt fn X) s s.heap [] := hpw.wi
  have hl : lv_has ls 6 [(0, .ref (a 1)), (1, .int (nI tm)), (2, .int (nI ky)), (3, .int (nI dy))] := hl
  suffices hgo : ∀ (H : Heap) (locs : List Loc), wi D z noA (cw a cI vals fil rb (nI t) wo cnt fn X) s H locs → ∀ ls : Array Slot, lv_has ls 6 [(0, .ref (a 1)), (1, .int (nI tm)), (2, .int (nI ky)), (3, .int (nI dy))] → W p l e (rmv 3 69) s m args below meth c H locs 0 0 Q (F0 m 0 ls []) from hgo _ _ hI ls hl
  intro H locs hI ls hl
  refine lv_iload_n hx hb dX0_rowEnd_0 rfl (lv_at hl 1 rfl) ?_
  refine lv_iload_n hx hb dX0_rowEnd_1 rfl (lv_at hl 2 rfl) ?_
  refine k_ro (run_n (As := [.int (nI tm), .int (nI ky)]) (rest := []) hF (c_X2_slotOf ) tt_blind (fun _ _ _ => trivial) cf_X2_slotOf hK.2.2.2.2.2.1 ⟨Nat.le_of_ble_eq_true rfl, Nat.le_of_ble_eq_true rfl⟩ ⟨rfl, rfl⟩ ⟨Nat.le_of_ble_eq_true rfl, Nat.le_of_ble_eq_true rfl⟩ rfl hl.1 rfl (Nat.le_of_ble_eq_true rfl) dX0_rowEnd_2) hI (fun H locs hI => ?_)
  refine lv_istore (lv' := [(4, .int (nI (tm * 4 + ky))), (0, .ref (a 1)), (1, .int (nI tm)), (2, .int (nI ky)), (3, .int (nI dy))]) hx hb dX0_rowEnd_5 hl (by decide) rfl (fun ls hl => ?_)
  refine lv_iload_n hx hb dX0_rowEnd_7 rfl (lv_at hl 2 rfl) ?_
  refine lv_iconst (v := nI 1) hx hb dX0_rowEnd_8 (by decide) ?_
  refine lv_iadd hx hb dX0_rowEnd_9 ?_
  refine tp (nI_add _ _) ?_
  refine lv_istore (lv' := [(5, .int (nI (tm + 1))), (4, .int (nI (tm * 4 + ky))), (0, .ref (a 1)), (1, .int (nI tm)), (2, .int (nI ky)), (3, .int (nI dy))]) hx hb dX0_rowEnd_10 hl (by decide) rfl (fun ls hl => ?_)
  have J12 : ∀ (n12_ : Nat) (x : Nat) (hx1 : x ≤ t + 1) (hx0 : tm < x) (hxe : endV S t tm ky dy = endF S (tm * 4 + ky) ky dy (t + 1 - x) x) (hm12 : t + 1 < x + n12_) (H : Heap) (locs : List Loc), wi D z noA (cw a cI vals fil rb (nI t) wo cnt fn X) s H locs → ∀ ls : Array Slot, lv_has ls 6 [(0, .ref (a 1)), (1, .int (nI tm)), (2, .int (nI ky)), (3, .int (nI dy)), (4, .int (nI (tm * 4 + ky))), (5, .int (nI x))] → W p l e (rmv 3 69) s m args below meth c H locs 0 0 Q (F0 m 12 ls []) := by
    intro n12_
    induction n12_ with
    | zero => intro x hx1 hx0 hxe hm12; exact absurd hm12 (by omega)
    | succ n12_ ih12 =>
      intro x hx1 hx0 hxe hm12 H locs hI ls hl
      refine lv_iload hx hb dX0_rowEnd_12 (lv_at hl 5 rfl) ?_
      refine lv_aload_n hx hb dX0_rowEnd_14 rfl (lv_at hl 0 rfl) ?_
      refine va_get (D := D) (ci := 0) (v := .int (nI t)) (C := RX0) (T := TX0) (N := 4) hx hb hts inX0 hown hK.1 hI.2.1 1 rfl rfl 3 (by decide) (hts _ k30) (fun _ h9 => h9) rfl dX0_rowEnd_15 ?_
      refine nb_gt (tgt := 46) hx hb dX0_rowEnd_18 (by decide) (by omega) (by omega) (fun c18 => ?_) (fun c18 => ?_)
      · refine lv_iconst (v := -1) hx hb dX0_rowEnd_46 (by decide) ?_
        exact hret hI.2.2.2 dX0_rowEnd_47 ((by rw [hxe, show t + 1 - x = 0 by omega]; rfl))
      · refine lv_aload_n hx hb dX0_rowEnd_21 rfl (lv_at hl 0 rfl) ?_
        refine lv_iload hx hb dX0_rowEnd_22 (lv_at hl 4 rfl) ?_
        refine lv_iload hx hb dX0_rowEnd_24 (lv_at hl 5 rfl) ?_
        refine lv_iload_n hx hb dX0_rowEnd_26 rfl (lv_at hl 2 rfl) ?_
        refine k_ro (run_n (As := [.int (nI x), .int (nI ky)]) (rest := [.int (nI (tm * 4 + ky)), .ref (a 1)]) hF (c_X2_slotOf ) tt_blind (fun _ _ _ => trivial) cf_X2_slotOf hK.2.2.2.2.2.1 ⟨Nat.le_of_ble_eq_true rfl, Nat.le_of_ble_eq_true rfl⟩ ⟨rfl, rfl⟩ ⟨Nat.le_of_ble_eq_true rfl, Nat.le_of_ble_eq_true rfl⟩ rfl hl.1 rfl (Nat.le_of_ble_eq_true rfl) dX0_rowEnd_27) hI (fun H locs hI => ?_)
        refine lv_iload_n hx hb dX0_rowEnd_30 rfl (lv_at hl 3 rfl) ?_
        refine k_ro (run_v (As := [.int (nI (tm * 4 + ky)), .int (nI (x * 4 + ky)), .int (nI dy)]) (rest := []) hF hK hI (c_X0_sharesRun hA ht (by omega) (by omega) (by omega) hs) cf_X0_sharesRun k240 1 0 rfl rfl ⟨Nat.le_of_ble_eq_true rfl, Nat.le_of_ble_eq_true rfl⟩ ⟨rfl, rfl⟩ ⟨Nat.le_of_ble_eq_true rfl, Nat.le_of_ble_eq_true rfl⟩ rfl hl.1 rfl (Nat.le_of_ble_eq_true rfl) dX0_rowEnd_31) hI (fun H locs hI => ?_)
        refine bz_ne (tgt := 40) hx hb dX0_rowEnd_34 (by decide) (fun c34 => ?_) (fun c34 => ?_)
        · refine lv_iinc (v := nI (x + 1)) (lv' := [(5, .int (nI (x + 1))), (0, .ref (a 1)), (1, .int (nI tm)), (2, .int (nI ky)), (3, .int (nI dy)), (4, .int (nI (tm * 4 + ky)))]) hx hb dX0_rowEnd_40 hl (k := 5) rfl (inc_n _ 1) (by decide) rfl (fun ls hl => ?_)
          refine lv_goto (tgt := 12) hx hb dX0_rowEnd_43 (by decide) ?_
          exact ih12 (x + 1) (by omega) (by omega) (hxe.trans (end_go (by omega) c34)) (by omega) H locs hI ls (lv_sub hl [1, 2, 3, 4, 5, 0] rfl)
        · refine lv_iload hx hb dX0_rowEnd_37 (lv_at hl 5 rfl) ?_
          exact hret hI.2.2.2 dX0_rowEnd_39 ((by rw [hxe, end_no (by omega) c34]))
  exact J12 (t + 1 + 1) (tm + 1) (by omega) (by omega) (by rw [endV, show t - tm = t + 1 - (tm + 1) by omega]) (by omega) H locs hI ls (lv_sub hl [2, 3, 4, 5, 1, 0] rfl)
set_option maxHeartbeats 4000000 in
set_option maxRecDepth 100000 in
theorem c_X0_partOfRow {l : Launch} {D : va_G} {cI cZ cJ : ClassId} {z : Nat} {a : Nat → Nat} {X : va_W} {vals fil rb : Nat → Int32} {t : Nat} {wo : Nat → Int32} {cnt fn : Int32} {S : Sta} (hA : cAbs S vals fil t) (ht : t < 40) {tm ky dy pt : Nat} (h1 : tm ≤ t) (h3 : ky < 4) (h2 : dy < 32) (hs : (S (tm * 4 + ky) dy).isSome = true) (h4 : pt ≤ 5) : roM l yX0_partOfRow cX0_partOfRow 6 (some .int) 4 94 [.ref (a 1), .int (nI tm), .int (nI ky), .int (nI dy), .int (nI pt)] (pw D cI cZ cJ z (cw a cI vals fil rb (nI t) wo cnt fn X)) (rowV S t tm ky dy pt) := by
  refine bd_ro (by decide) (Nat.le_of_ble_eq_true rfl) ?_
  intro p e s m args below meth c Q hF hpw hret ls hl
  obtain ⟨hx, hb, hml, hown, hts, hr, hlocks⟩ := id hF
  have hK := hpw.2.2.2
  have hI : wi D z noA (cw a cI vals fil rb (nI t) wo cnt fn X) s s.heap [] := hpw.wi
  have hl : lv_has ls 6 [(0, .ref (a 1)), (1, .int (nI tm)), (2, .int (nI ky)), (3, .int (nI dy)), (4, .int (nI pt))] := hl
  suffices hgo : ∀ (H : Heap) (locs : List Loc), wi D z noA (cw a cI vals fil rb (nI t) wo cnt fn X) s H locs → ∀ ls : Array Slot, lv_has ls 6 [(0, .ref (a 1)), (1, .int (nI tm)), (2, .int (nI ky)), (3, .int (nI dy)), (4, .int (nI pt))] → W p l e (rmv 4 94) s m args below meth c H locs 0 0 Q (F0 m 0 ls []) from hgo _ _ hI ls hl
  intro H locs hI ls hl
  refine lv_iload_n hx hb dX0_partOfRow_0 rfl (lv_at hl 1 rfl) ?_
  refine lv_iload_n hx hb dX0_partOfRow_1 rfl (lv_at hl 2 rfl) ?_
  refine k_ro (run_n (As := [.int (nI tm), .int (nI ky)]) (rest := []) hF (c_X2_slotOf ) tt_blind (fun _ _ _ => trivial) cf_X2_slotOf hK.2.2.2.2.2.1 ⟨Nat.le_of_ble_eq_true rfl, Nat.le_of_ble_eq_true rfl⟩ ⟨rfl, rfl⟩ ⟨Nat.le_of_ble_eq_true rfl, Nat.le_of_ble_eq_true rfl⟩ rfl hl.1 rfl (Nat.le_of_ble_eq_true rfl) dX0_partOfRow_2) hI (fun H locs hI => ?_)
  refine lv_istore (lv' := [(5, .int (nI (tm * 4 + ky))), (0, .ref (a 1)), (1, .int (nI tm)), (2, .int (nI ky)), (3, .int (nI dy)), (4, .int (nI pt))]) hx hb dX0_partOfRow_5 hl (by decide) rfl (fun ls hl => ?_)
  refine lv_iload hx hb dX0_partOfRow_7 (lv_at hl 5 rfl) ?_
  rcases (show pt = 0 ∨ pt = 1 ∨ pt = 2 ∨ pt = 3 ∨ pt = 4 ∨ pt = 5 by omega) with rfl | rfl | rfl | rfl | rfl | rfl
  · refine lv_tableIn (off := 35) (tgt := 44) hx hb dX0_partOfRow_9 (by decide) (by decide) rfl (by decide) ?_
    refine lv_iload_n hx hb dX0_partOfRow_44 rfl (lv_at hl 3 rfl) ?_
    exact hret hI.2.2.2 dX0_partOfRow_45 ((by first | rfl | (simp [rowV, val_c hA (by omega) h2 hs])))
  · refine lv_tableIn (off := 37) (tgt := 46) hx hb dX0_partOfRow_9 (by decide) (by decide) rfl (by decide) ?_
    refine lv_aload_n hx hb dX0_partOfRow_46 rfl (lv_at hl 1 rfl) ?_
    refine lv_iload hx hb dX0_partOfRow_47 (lv_at hl 0 rfl) ?_
    refine lv_iload_n hx hb dX0_partOfRow_49 rfl (lv_at hl 4 rfl) ?_
    refine k_ro (run_v (As := [.int (nI (tm * 4 + ky)), .int (nI dy)]) (rest := []) hF hK hI (c_X0_valueOn ht (by omega) (by omega)) cf_X0_valueOn k244 1 0 rfl rfl ⟨Nat.le_of_ble_eq_true rfl, Nat.le_of_ble_eq_true rfl⟩ ⟨rfl, rfl⟩ ⟨Nat.le_of_ble_eq_true rfl, Nat.le_of_ble_eq_true rfl⟩ rfl hl.1 rfl (Nat.le_of_ble_eq_true rfl) dX0_partOfRow_50) hI (fun H locs hI => ?_)
    exact hret hI.2.2.2 dX0_partOfRow_53 ((by first | rfl | (simp [rowV, val_c hA (by omega) h2 hs])))
  · refine lv_tableIn (off := 45) (tgt := 54) hx hb dX0_partOfRow_9 (by decide) (by decide) rfl (by decide) ?_
    refine lv_iload_n hx hb dX0_partOfRow_54 rfl (lv_at hl 4 rfl) ?_
    exact hret hI.2.2.2 dX0_partOfRow_55 ((by first | rfl | (simp [rowV, val_c hA (by omega) h2 hs])))
  · refine lv_tableIn (off := 47) (tgt := 56) hx hb dX0_partOfRow_9 (by decide) (by decide) rfl (by decide) ?_
    refine lv_aload_n hx hb dX0_partOfRow_56 rfl (lv_at hl 1 rfl) ?_
    refine lv_iload hx hb dX0_partOfRow_57 (lv_at hl 0 rfl) ?_
    refine lv_iload_n hx hb dX0_partOfRow_59 rfl (lv_at hl 4 rfl) ?_
    refine k_ro (run_v (As := [.int (nI (tm * 4 + ky)), .int (nI dy)]) (rest := []) hF hK hI (c_X0_runEnd hA ht (by omega) (by omega)) cf_X0_runEnd k248 1 0 rfl rfl ⟨Nat.le_of_ble_eq_true rfl, Nat.le_of_ble_eq_true rfl⟩ ⟨rfl, rfl⟩ ⟨Nat.le_of_ble_eq_true rfl, Nat.le_of_ble_eq_true rfl⟩ rfl hl.1 rfl (Nat.le_of_ble_eq_true rfl) dX0_partOfRow_60) hI (fun H locs hI => ?_)
    exact hret hI.2.2.2 dX0_partOfRow_63 ((by first | rfl | (simp [rowV, val_c hA (by omega) h2 hs])))
  · refine lv_tableIn (off := 55) (tgt := 64) hx hb dX0_partOfRow_9 (by decide) (by decide) rfl (by decide) ?_
    refine lv_iload_n hx hb dX0_partOfRow_64 rfl (lv_at hl 2 rfl) ?_
    exact hret hI.2.2.2 dX0_partOfRow_65 ((by first | rfl | (simp [rowV, val_c hA (by omega) h2 hs])))
  · refine lv_tableOut (tgt := 66) hx hb dX0_partOfRow_9 (by decide) (by decide) ?_
    refine lv_aload_n hx hb dX0_partOfRow_66 rfl (lv_at hl 1 rfl) ?_
    refine lv_iload_n hx hb dX0_partOfRow_67 rfl (lv_at hl 2 rfl) ?_
    refine lv_iload_n hx hb dX0_partOfRow_68 rfl (lv_at hl 3 rfl) ?_
    refine lv_iload_n hx hb dX0_partOfRow_69 rfl (lv_at hl 4 rfl) ?_
    refine k_ro (run_v (As := [.int (nI tm), .int (nI ky), .int (nI dy)]) (rest := []) hF hK hI (c_X0_rowEnd hA ht (by omega) (by omega) (by omega) hs) cf_X0_rowEnd k375 1 0 rfl rfl ⟨Nat.le_of_ble_eq_true rfl, Nat.le_of_ble_eq_true rfl⟩ ⟨rfl, rfl⟩ ⟨Nat.le_of_ble_eq_true rfl, Nat.le_of_ble_eq_true rfl⟩ rfl hl.1 rfl (Nat.le_of_ble_eq_true rfl) dX0_partOfRow_70) hI (fun H locs hI => ?_)
    exact hret hI.2.2.2 dX0_partOfRow_73 ((by first | rfl | (simp [rowV, val_c hA (by omega) h2 hs])))
end
section
set_option maxHeartbeats 4000000 in
set_option maxRecDepth 100000 in
theorem c_X0_rowPart {l : Launch} {D : va_G} {cI cZ cJ : ClassId} {z : Nat} {a : Nat → Nat} {X : va_W} {vals fil rb : Nat → Int32} {t : Nat} {wo : Nat → Int32} {cnt fn : Int32} {S : Sta} (hA : cAbs S vals fil t) (ht : t < 40) (hR : ∀ x, x < 4 * (t + 1) → rb x = nI (rowsIn S x)) {ky tm i k pt : Nat} (h3 : ky < 4) (h4 : tm ≤ t) (h5 : i < 32) (h6 : pt ≤ 5) (hrw : isRw S (tm * 4 + ky) i = true) (hk : k = rowAt S t ky tm i) : roM l yX0_rowPart cX0_rowPart 7 (some .int) 5 119 [.ref (a 1), .int (nI k), .int (nI pt)] (pw D cI cZ cJ z (cw a cI vals fil rb (nI t) wo cnt fn X)) (rowV S t tm ky i pt) := by
  refine bd_ro (by decide) (Nat.le_of_ble_eq_true rfl) ?_
  intro p e s m args below meth c Q hF hpw hret ls hl
  obtain ⟨hx, hb, hml, hown, hts, hr, hlocks⟩ := id hF
  have hK := hpw.2.2.2
  have hI : wi D z noA (cw a cI vals fil rb (nI t) wo cnt fn X) s s.heap [] := hpw.wi
  have hl : lv_has ls 7 [(0, .ref (a 1)), (1, .int (nI k)), (2, .int (nI pt))] := hl
  suffices hgo : ∀ (H : Heap) (locs : List Loc), wi D z noA (cw a cI vals fil rb (nI t) wo cnt fn X) s H locs → ∀ ls : Array Slot, lv_has ls 7 [(0, .ref (a 1)), (1, .int (nI k)), (2, .int (nI pt))] → W p l e (rmv 5 119) s m args below meth c H locs 0 0 Q (F0 m 0 ls []) from hgo _ _ hI ls hl
  intro H locs hI ls hl
  refine lv_iload_n hx hb dX0_rowPart_0 rfl (lv_at hl 1 rfl) ?_
  refine lv_istore_n (lv' := [(3, .int (nI k)), (0, .ref (a 1)), (1, .int (nI k)), (2, .int (nI pt))]) hx hb dX0_rowPart_1 rfl hl (by decide) rfl (fun ls hl => ?_)
  refine lv_iconst (v := nI 0) hx hb dX0_rowPart_2 (by decide) ?_
  refine lv_istore (lv' := [(4, .int (nI 0)), (3, .int (nI k)), (0, .ref (a 1)), (1, .int (nI k)), (2, .int (nI pt))]) hx hb dX0_rowPart_3 hl (by decide) rfl (fun ls hl => ?_)
  have J5 : ∀ (n5_ : Nat) (y : Nat) (n3 : Nat) (hy : y ≤ ky) (hn5 : n3 + fb_sm (rowsK S t) y = k) (hm5 : 3 < y + n5_) (H : Heap) (locs : List Loc), wi D z noA (cw a cI vals fil rb (nI t) wo cnt fn X) s H locs → ∀ ls : Array Slot, lv_has ls 7 [(0, .ref (a 1)), (1, .int (nI k)), (2, .int (nI pt)), (3, .int (nI n3)), (4, .int (nI y))] → W p l e (rmv 5 119) s m args below meth c H locs 0 0 Q (F0 m 5 ls []) := by
    intro n5_
    induction n5_ with
    | zero => intro y n3 hy hn5 hm5; exact absurd hm5 (by omega)
    | succ n5_ ih5 =>
      intro y n3 hy hn5 hm5 H locs hI ls hl
      refine lv_iload hx hb dX0_rowPart_5 (lv_at hl 4 rfl) ?_
      refine lv_iconst (v := nI 4) hx hb dX0_rowPart_7 (by decide) ?_
      refine nb_ge (tgt := 82) hx hb dX0_rowPart_8 (by decide) (by omega) (by omega) (fun c8 => ?_) (fun c8 => ?_)
      · refine lv_iconst (v := -1) hx hb dX0_rowPart_82 (by decide) ?_
        exact hret hI.2.2.2 dX0_rowPart_83 ((absurd hy (by omega)))
      · refine lv_iconst (v := nI 0) hx hb dX0_rowPart_11 (by decide) ?_
        refine lv_istore (lv' := [(5, .int (nI 0)), (0, .ref (a 1)), (1, .int (nI k)), (2, .int (nI pt)), (3, .int (nI n3)), (4, .int (nI y))]) hx hb dX0_rowPart_12 hl (by decide) rfl (fun ls hl => ?_)
        have J14 : ∀ (n14_ : Nat) (x : Nat) (n3 : Nat) (hx1 : x ≤ t + 1) (hn : n3 + fb_sm (rowsK S t) y + fb_sm (fun w => rowsIn S (w * 4 + y)) x = k) (hlex : y < ky ∨ (y = ky ∧ x ≤ tm)) (hm14 : t + 1 < x + n14_) (H : Heap) (locs : List Loc), wi D z noA (cw a cI vals fil rb (nI t) wo cnt fn X) s H locs → ∀ ls : Array Slot, lv_has ls 7 [(0, .ref (a 1)), (1, .int (nI k)), (2, .int (nI pt)), (3, .int (nI n3)), (4, .int (nI y)), (5, .int (nI x))] → W p l e (rmv 5 119) s m args below meth c H locs 0 0 Q (F0 m 14 ls []) := by
          intro n14_
          induction n14_ with
          | zero => intro x n3 hx1 hn hlex hm14; exact absurd hm14 (by omega)
          | succ n14_ ih14 =>
            intro x n3 hx1 hn hlex hm14 H locs hI ls hl
            refine lv_iload hx hb dX0_rowPart_14 (lv_at hl 5 rfl) ?_
            refine lv_aload_n hx hb dX0_rowPart_16 rfl (lv_at hl 0 rfl) ?_
            refine va_get (D := D) (ci := 0) (v := .int (nI t)) (C := RX0) (T := TX0) (N := 4) hx hb hts inX0 hown hK.1 hI.2.1 1 rfl rfl 3 (by decide) (hts _ k30) (fun _ h9 => h9) rfl dX0_rowPart_17 ?_
            refine nb_gt (tgt := 76) hx hb dX0_rowPart_20 (by decide) (by omega) (by omega) (fun c20 => ?_) (fun c20 => ?_)
            · refine lv_iinc (v := nI (y + 1)) (lv' := [(4, .int (nI (y + 1))), (0, .ref (a 1)), (1, .int (nI k)), (2, .int (nI pt)), (3, .int (nI n3)), (5, .int (nI x))]) hx hb dX0_rowPart_76 hl (k := 4) rfl (inc_n _ 1) (by decide) rfl (fun ls hl => ?_)
              refine lv_goto (tgt := 5) hx hb dX0_rowPart_79 (by decide) ?_
              exact ih5 (y + 1) n3 (by omega) (by have e9 : rowsK S t y = fb_sm (fun w => rowsIn S (w * 4 + y)) x := (by unfold rowsK; rw [show t + 1 = x by omega]); rw [fb_sm_succ]; omega) (by omega) H locs hI ls (lv_sub hl [1, 2, 3, 4, 0] rfl)
            · have g0 : rowsIn S (x * 4 + y) ≤ 32 := rowsIn_le
              have g1 := rowAt_le (S := S) h3 h4 h5
              have g2 : k < 2 ^ 30 := by omega
              refine lv_aload_n hx hb dX0_rowPart_23 rfl (lv_at hl 0 rfl) ?_
              refine va_get (D := D) (ci := 0) (v := .ref (a 4)) (C := RX0) (T := TX0) (N := 4) hx hb hts inX0 hown hK.1 hI.2.1 1 rfl rfl 2 (by decide) (hts _ k29) (fun _ h9 => h9) rfl dX0_rowPart_24 ?_
              refine lv_iload hx hb dX0_rowPart_27 (lv_at hl 5 rfl) ?_
              refine lv_iload hx hb dX0_rowPart_29 (lv_at hl 4 rfl) ?_
              refine k_ro (run_n (As := [.int (nI x), .int (nI y)]) (rest := [.ref (a 4)]) hF (c_X2_slotOf ) tt_blind (fun _ _ _ => trivial) cf_X2_slotOf hK.2.2.2.2.2.1 ⟨Nat.le_of_ble_eq_true rfl, Nat.le_of_ble_eq_true rfl⟩ ⟨rfl, rfl⟩ ⟨Nat.le_of_ble_eq_true rfl, Nat.le_of_ble_eq_true rfl⟩ rfl hl.1 rfl (Nat.le_of_ble_eq_true rfl) dX0_rowPart_31) hI (fun H locs hI => ?_)
              refine ia_ld (f := rb) (k := x * 4 + y) hx hb hK hI 4 rfl dX0_rowPart_34 (by omega) (by decide) ?_
              have e6 : rb (x * 4 + y) = nI (rowsIn S (x * 4 + y)) := hR _ (by omega)
              refine tp e6 ?_
              refine lv_istore (lv' := [(6, .int (nI (rowsIn S (x * 4 + y)))), (0, .ref (a 1)), (1, .int (nI k)), (2, .int (nI pt)), (3, .int (nI n3)), (4, .int (nI y)), (5, .int (nI x))]) hx hb dX0_rowPart_35 hl (by decide) rfl (fun ls hl => ?_)
              refine lv_iload_n hx hb dX0_rowPart_37 rfl (lv_at hl 4 rfl) ?_
              refine lv_iload hx hb dX0_rowPart_38 (lv_at hl 0 rfl) ?_
              refine nb_ge (tgt := 65) hx hb dX0_rowPart_40 (by decide) (by omega) (by omega) (fun c40 => ?_) (fun c40 => ?_)
              · have g3 : ¬ (y = ky ∧ x = tm) := row_past h5 hrw hn hk c40
                refine lv_iload_n hx hb dX0_rowPart_65 rfl (lv_at hl 4 rfl) ?_
                refine lv_iload hx hb dX0_rowPart_66 (lv_at hl 0 rfl) ?_
                refine lv_isub hx hb dX0_rowPart_68 ?_
                refine tp (pk_sub (by omega)) ?_
                refine lv_istore_n (lv' := [(3, .int (nI (n3 - (rowsIn S (x * 4 + y))))), (6, .int (nI (rowsIn S (x * 4 + y)))), (0, .ref (a 1)), (1, .int (nI k)), (2, .int (nI pt)), (4, .int (nI y)), (5, .int (nI x))]) hx hb dX0_rowPart_69 rfl hl (by decide) rfl (fun ls hl => ?_)
                refine lv_iinc (v := nI (x + 1)) (lv' := [(5, .int (nI (x + 1))), (3, .int (nI (n3 - (rowsIn S (x * 4 + y))))), (6, .int (nI (rowsIn S (x * 4 + y)))), (0, .ref (a 1)), (1, .int (nI k)), (2, .int (nI pt)), (4, .int (nI y))]) hx hb dX0_rowPart_70 hl (k := 6) rfl (inc_n _ 1) (by decide) rfl (fun ls hl => ?_)
                refine lv_goto (tgt := 14) hx hb dX0_rowPart_73 (by decide) ?_
                exact ih14 (x + 1) (n3 - (rowsIn S (x * 4 + y))) (by omega) (by rw [fb_sm_succ]; omega) (by omega) (by omega) H locs hI ls (lv_sub hl [3, 4, 5, 1, 6, 0] rfl)
              · obtain ⟨e1, e2⟩ : y = ky ∧ x = tm := row_here h4 hlex hn hk c40
                subst e1 e2
                have hs := beg_some (isRw_beg hrw)
                have e3 : fb_ct (isRw S (x * 4 + y)) i = n3 := by unfold rowAt at hk; omega
                refine lv_aload_n hx hb dX0_rowPart_43 rfl (lv_at hl 1 rfl) ?_
                refine lv_iload hx hb dX0_rowPart_44 (lv_at hl 6 rfl) ?_
                refine lv_iload hx hb dX0_rowPart_46 (lv_at hl 5 rfl) ?_
                refine lv_aload_n hx hb dX0_rowPart_48 rfl (lv_at hl 1 rfl) ?_
                refine lv_iload hx hb dX0_rowPart_49 (lv_at hl 6 rfl) ?_
                refine lv_iload hx hb dX0_rowPart_51 (lv_at hl 5 rfl) ?_
                refine k_ro (run_n (As := [.int (nI x), .int (nI y)]) (rest := [.ref (a 1), .int (nI y), .int (nI x), .ref (a 1)]) hF (c_X2_slotOf ) tt_blind (fun _ _ _ => trivial) cf_X2_slotOf hK.2.2.2.2.2.1 ⟨Nat.le_of_ble_eq_true rfl, Nat.le_of_ble_eq_true rfl⟩ ⟨rfl, rfl⟩ ⟨Nat.le_of_ble_eq_true rfl, Nat.le_of_ble_eq_true rfl⟩ rfl hl.1 rfl (Nat.le_of_ble_eq_true rfl) dX0_rowPart_53) hI (fun H locs hI => ?_)
                refine lv_iload_n hx hb dX0_rowPart_56 rfl (lv_at hl 4 rfl) ?_
                refine k_ro (run_v (As := [.int (nI (x * 4 + y)), .int (nI n3)]) (rest := [.int (nI y), .int (nI x), .ref (a 1)]) hF hK hI (c_X0_rowStart hA ht (by omega) h5 hrw e3) cf_X0_rowStart k367 1 0 rfl rfl ⟨Nat.le_of_ble_eq_true rfl, Nat.le_of_ble_eq_true rfl⟩ ⟨rfl, rfl⟩ ⟨Nat.le_of_ble_eq_true rfl, Nat.le_of_ble_eq_true rfl⟩ rfl hl.1 rfl (Nat.le_of_ble_eq_true rfl) dX0_rowPart_57) hI (fun H locs hI => ?_)
                refine lv_iload_n hx hb dX0_rowPart_60 rfl (lv_at hl 3 rfl) ?_
                refine k_ro (run_v (As := [.int (nI x), .int (nI y), .int (nI i), .int (nI pt)]) (rest := []) hF hK hI (c_X0_partOfRow hA ht (by omega) (by omega) (by omega) hs (by omega)) cf_X0_partOfRow k371 1 0 rfl rfl ⟨Nat.le_of_ble_eq_true rfl, Nat.le_of_ble_eq_true rfl⟩ ⟨rfl, rfl⟩ ⟨Nat.le_of_ble_eq_true rfl, Nat.le_of_ble_eq_true rfl⟩ rfl hl.1 rfl (Nat.le_of_ble_eq_true rfl) dX0_rowPart_61) hI (fun H locs hI => ?_)
                exact hret hI.2.2.2 dX0_rowPart_64 (rfl)
        exact J14 (t + 1 + 1) 0 n3 (by omega) (by rw [fb_sm]; omega) (by omega) (by omega) H locs hI ls (lv_sub hl [1, 2, 3, 4, 5, 0] rfl)
  exact J5 (3 + 1) 0 k (by omega) (by rw [fb_sm]; omega) (by omega) H locs hI ls (lv_sub hl [2, 3, 4, 1, 0] rfl)
end
section
def al (S : Sta) (sl dy ot : Nat) : Bool := (S sl dy).isSome && decide (S sl dy = S sl ot)
def isRn (S : Sta) (sl dy to : Nat) (v : Int32) : Bool := beg S sl dy && (decide (rend S sl dy = to) && decide (S sl dy = some v))
def held (S : Sta) (sl fr n : Nat) : Nat := fb_ct (fun j => (S sl (fr + j)).isSome) n
section PM
variable {S : Sta} {th : Nat → Bool} {vs : Nat → Int32} {t tm ky dy ot : Nat}
theorem has_m (hM : mAbs S th vs t) (h1 : tm ≤ t) (h3 : ky < 4) (h2 : dy < 32) : (S (tm * 4 + ky) dy).isSome = th (128 * tm + 32 * ky + dy) := by
  rw [hM tm ky dy h1 h3 h2]
  cases th (128 * tm + 32 * ky + dy) <;> simp
theorem val_m (hM : mAbs S th vs t) (h1 : tm ≤ t) (h3 : ky < 4) (h2 : dy < 32) (h : (S (tm * 4 + ky) dy).isSome = true) : S (tm * 4 + ky) dy = some (vs (128 * tm + 32 * ky + dy)) := by
  have h4 := has_m hM h1 h3 h2
  rw [h] at h4
  rw [hM tm ky dy h1 h3 h2, if_pos h4.symm]
theorem al_m (hM : mAbs S th vs t) (h1 : tm ≤ t) (h3 : ky < 4) (h2 : dy < 32) (h4 : ot < 32) : al S (tm * 4 + ky) dy ot = (th (128 * tm + 32 * ky + dy) && (th (128 * tm + 32 * ky + ot) && decide (vs (128 * tm + 32 * ky + dy) = vs (128 * tm + 32 * ky + ot)))) := by
  unfold al
  rw [hM tm ky dy h1 h3 h2, hM tm ky ot h1 h3 h4]
  cases th (128 * tm + 32 * ky + dy) <;> cases th (128 * tm + 32 * ky + ot) <;> simp
theorem con_al {sl : Nat} (h : ¬ dy = 0) : con S sl dy = al S sl (dy - 1) dy := by
  unfold con al
  by_cases e : S sl (dy - 1) = S sl dy
  · rw [e]; simp [h]
  · simp [h, e]
theorem al_con {sl x : Nat} (h0 : 0 < x) (h : S sl (x - 1) = S sl dy) : al S sl dy x = con S sl x := by
  rw [con_al (by omega), al, al, h]
theorem al_eq {sl x : Nat} (h : al S sl dy x = true) : S sl (x + 1 - 1) = S sl dy := by
  unfold al at h
  simp only [Bool.and_eq_true, decide_eq_true_eq] at h
  rw [Nat.add_sub_cancel, h.2]
theorem isRn_shr {sl so : Nat} {v : Int32} (h : S sl dy = some v) : isRn S so dy (rend S sl dy) v = shr S sl so dy := by
  unfold isRn shr
  rw [h]
  cases beg S so dy <;> simp
  exact Bool.and_comm _ _
theorem isRw_m (h3 : ky < 4) (hs : beg S (tm * 4 + ky) dy = true) : isRw S (tm * 4 + ky) dy = (decide (tm = 0) || !(shr S (tm * 4 + ky) ((tm - 1) * 4 + ky) dy)) := by
  unfold isRw
  rw [hs]
  by_cases h : tm = 0
  · have : tm * 4 + ky < 4 := by omega
    simp [h, h3]
  · have e1 : ¬ tm * 4 + ky < 4 := by omega
    have e2 : tm * 4 + ky - 4 = (tm - 1) * 4 + ky := by omega
    simp [h, e1, e2]
theorem sum4 (f : Nat → Nat) : ∀ n, fb_sm f (4 * n) = fb_sm (fun w => f (w * 4 + 0)) n + fb_sm (fun w => f (w * 4 + 1)) n + fb_sm (fun w => f (w * 4 + 2)) n + fb_sm (fun w => f (w * 4 + 3)) n
  | 0 => rfl
  | n + 1 => by
    have a1 : fb_sm f (4 * (n + 1)) = fb_sm f (4 * n) + f (4 * n) + f (4 * n + 1) + f (4 * n + 2) + f (4 * n + 3) := rfl
    rw [a1, fb_sm_succ, fb_sm_succ, fb_sm_succ, fb_sm_succ, sum4 f n]
    simp only [show n * 4 + 0 = 4 * n by omega, show n * 4 + 1 = 4 * n + 1 by omega, show n * 4 + 2 = 4 * n + 2 by omega, show n * 4 + 3 = 4 * n + 3 by omega]
    omega
theorem rows_all : fb_sm (rowsK S t) 4 = rowsTo S (4 * (t + 1)) := by
  rw [rowsTo, sum4, fb_sm, fb_sm, fb_sm, fb_sm, fb_sm]
  simp only [rowsK]
  omega
end PM
theorem fwd_or (fa fb fc fd : Nat) : fwdI fa fb fc fd = -1 ∨ ¬ fwdI fa fb fc fd < 0 := by
  unfold fwdI
  repeat' split
  all_goals first | exact Or.inl rfl | exact Or.inr (by decide)
theorem fwd_lt {fa fb fc fd : Nat} (h : fwdI fa fb fc fd < 0) : fwdI fa fb fc fd = -1 := (fwd_or fa fb fc fd).elim id (fun q => absurd h q)
theorem fwd_nlt {fa fb fc fd : Nat} (h : ¬ fwdI fa fb fc fd < 0) : ¬ fwdI fa fb fc fd = -1 := fun q => h (by rw [q]; decide)
end
section
set_option maxHeartbeats 4000000 in
set_option maxRecDepth 100000 in
theorem c_X3_isKey {l : Launch} {key : Int32}  : roM l yX3_isKey cX3_isKey 1 (some .boolean) 0 0 [.int (key)] (fun _ => True) (bi (okK key)) := by
  refine bd_rz (by decide) (Nat.le_of_ble_eq_true rfl) ?_
  intro p e s m args below meth c Q hF hpw hret ls hl
  obtain ⟨hx, hb, hml, hown, hts, hr, hlocks⟩ := id hF
  have hI : va_S noA s.heap s.heap [] := va_S.rf
  have hl : lv_has ls 1 [(0, .int (key))] := hl
  suffices hgo : ∀ (H : Heap) (locs : List Loc), va_S noA s.heap H locs → ∀ ls : Array Slot, lv_has ls 1 [(0, .int (key))] → W p l e (rmv 0 0) s m args below meth c H locs 0 0 Q (F0 m 0 ls []) from hgo _ _ hI ls hl
  intro H locs hI ls hl
  refine lv_iload_n hx hb dX3_isKey_0 rfl (lv_at hl 0 rfl) ?_
  refine lv_if_lt (tgt := 13) hx hb dX3_isKey_1 (by decide) (fun c1 => ?_) (fun c1 => ?_)
  · refine lv_iconst (v := nI 0) hx hb dX3_isKey_13 (by decide) ?_
    exact hret hI dX3_isKey_14 (bi_f (by simp only [okK, okD, okP, okT, q_lt0, q_le4, q_lt3, q_le32, q_lt32, q_lt31, decide_eq_true_eq, decide_eq_false_iff_not] at *; (try simp only [fa_lt, fa_le] at *); omega)).symm
  · refine lv_iload_n hx hb dX3_isKey_4 rfl (lv_at hl 0 rfl) ?_
    refine lv_iconst (v := nI 3) hx hb dX3_isKey_5 (by decide) ?_
    refine lv_icmp_gt (tgt := 13) hx hb dX3_isKey_6 (by decide) (fun c6 => ?_) (fun c6 => ?_)
    · refine lv_iconst (v := nI 0) hx hb dX3_isKey_13 (by decide) ?_
      exact hret hI dX3_isKey_14 (bi_f (by simp only [okK, okD, okP, okT, q_lt0, q_le4, q_lt3, q_le32, q_lt32, q_lt31, decide_eq_true_eq, decide_eq_false_iff_not] at *; (try simp only [fa_lt, fa_le] at *); omega)).symm
    · refine lv_iconst (v := nI 1) hx hb dX3_isKey_9 (by decide) ?_
      refine lv_goto (tgt := 14) hx hb dX3_isKey_10 (by decide) ?_
      exact hret hI dX3_isKey_14 (bi_t (by simp only [okK, okD, okP, okT, q_lt0, q_le4, q_lt3, q_le32, q_lt32, q_lt31, decide_eq_true_eq, decide_eq_false_iff_not] at *; (try simp only [fa_lt, fa_le] at *); omega)).symm
set_option maxHeartbeats 4000000 in
set_option maxRecDepth 100000 in
theorem c_X3_isDay {l : Launch} {day : Int32}  : roM l yX3_isDay cX3_isDay 1 (some .boolean) 0 0 [.int (day)] (fun _ => True) (bi (okD day)) := by
  refine bd_rz (by decide) (Nat.le_of_ble_eq_true rfl) ?_
  intro p e s m args below meth c Q hF hpw hret ls hl
  obtain ⟨hx, hb, hml, hown, hts, hr, hlocks⟩ := id hF
  have hI : va_S noA s.heap s.heap [] := va_S.rf
  have hl : lv_has ls 1 [(0, .int (day))] := hl
  suffices hgo : ∀ (H : Heap) (locs : List Loc), va_S noA s.heap H locs → ∀ ls : Array Slot, lv_has ls 1 [(0, .int (day))] → W p l e (rmv 0 0) s m args below meth c H locs 0 0 Q (F0 m 0 ls []) from hgo _ _ hI ls hl
  intro H locs hI ls hl
  refine lv_iload_n hx hb dX3_isDay_0 rfl (lv_at hl 0 rfl) ?_
  refine lv_if_lt (tgt := 14) hx hb dX3_isDay_1 (by decide) (fun c1 => ?_) (fun c1 => ?_)
  · refine lv_iconst (v := nI 0) hx hb dX3_isDay_14 (by decide) ?_
    exact hret hI dX3_isDay_15 (bi_f (by simp only [okK, okD, okP, okT, q_lt0, q_le4, q_lt3, q_le32, q_lt32, q_lt31, decide_eq_true_eq, decide_eq_false_iff_not] at *; (try simp only [fa_lt, fa_le] at *); omega)).symm
  · refine lv_iload_n hx hb dX3_isDay_4 rfl (lv_at hl 0 rfl) ?_
    refine lv_bipush (v := nI 31) hx hb dX3_isDay_5 (by decide) ?_
    refine lv_icmp_gt (tgt := 14) hx hb dX3_isDay_7 (by decide) (fun c7 => ?_) (fun c7 => ?_)
    · refine lv_iconst (v := nI 0) hx hb dX3_isDay_14 (by decide) ?_
      exact hret hI dX3_isDay_15 (bi_f (by simp only [okK, okD, okP, okT, q_lt0, q_le4, q_lt3, q_le32, q_lt32, q_lt31, decide_eq_true_eq, decide_eq_false_iff_not] at *; (try simp only [fa_lt, fa_le] at *); omega)).symm
    · refine lv_iconst (v := nI 1) hx hb dX3_isDay_10 (by decide) ?_
      refine lv_goto (tgt := 15) hx hb dX3_isDay_11 (by decide) ?_
      exact hret hI dX3_isDay_15 (bi_t (by simp only [okK, okD, okP, okT, q_lt0, q_le4, q_lt3, q_le32, q_lt32, q_lt31, decide_eq_true_eq, decide_eq_false_iff_not] at *; (try simp only [fa_lt, fa_le] at *); omega)).symm
set_option maxHeartbeats 4000000 in
set_option maxRecDepth 100000 in
theorem c_X3_isPeriod {l : Launch} {fr to : Int32}  : roM l yX3_isPeriod cX3_isPeriod 2 (some .boolean) 0 0 [.int (fr), .int (to)] (fun _ => True) (bi (okP fr to)) := by
  refine bd_rz (by decide) (Nat.le_of_ble_eq_true rfl) ?_
  intro p e s m args below meth c Q hF hpw hret ls hl
  obtain ⟨hx, hb, hml, hown, hts, hr, hlocks⟩ := id hF
  have hI : va_S noA s.heap s.heap [] := va_S.rf
  have hl : lv_has ls 2 [(0, .int (fr)), (1, .int (to))] := hl
  suffices hgo : ∀ (H : Heap) (locs : List Loc), va_S noA s.heap H locs → ∀ ls : Array Slot, lv_has ls 2 [(0, .int (fr)), (1, .int (to))] → W p l e (rmv 0 0) s m args below meth c H locs 0 0 Q (F0 m 0 ls []) from hgo _ _ hI ls hl
  intro H locs hI ls hl
  refine lv_iload_n hx hb dX3_isPeriod_0 rfl (lv_at hl 0 rfl) ?_
  refine lv_if_lt (tgt := 19) hx hb dX3_isPeriod_1 (by decide) (fun c1 => ?_) (fun c1 => ?_)
  · refine lv_iconst (v := nI 0) hx hb dX3_isPeriod_19 (by decide) ?_
    exact hret hI dX3_isPeriod_20 (bi_f (by simp only [okK, okD, okP, okT, q_lt0, q_le4, q_lt3, q_le32, q_lt32, q_lt31, decide_eq_true_eq, decide_eq_false_iff_not] at *; (try simp only [fa_lt, fa_le] at *); omega)).symm
  · refine lv_iload_n hx hb dX3_isPeriod_4 rfl (lv_at hl 0 rfl) ?_
    refine lv_iload_n hx hb dX3_isPeriod_5 rfl (lv_at hl 1 rfl) ?_
    refine lv_icmp_ge (tgt := 19) hx hb dX3_isPeriod_6 (by decide) (fun c6 => ?_) (fun c6 => ?_)
    · refine lv_iconst (v := nI 0) hx hb dX3_isPeriod_19 (by decide) ?_
      exact hret hI dX3_isPeriod_20 (bi_f (by simp only [okK, okD, okP, okT, q_lt0, q_le4, q_lt3, q_le32, q_lt32, q_lt31, decide_eq_true_eq, decide_eq_false_iff_not] at *; (try simp only [fa_lt, fa_le] at *); omega)).symm
    · refine lv_iload_n hx hb dX3_isPeriod_9 rfl (lv_at hl 1 rfl) ?_
      refine lv_bipush (v := nI 32) hx hb dX3_isPeriod_10 (by decide) ?_
      refine lv_icmp_gt (tgt := 19) hx hb dX3_isPeriod_12 (by decide) (fun c12 => ?_) (fun c12 => ?_)
      · refine lv_iconst (v := nI 0) hx hb dX3_isPeriod_19 (by decide) ?_
        exact hret hI dX3_isPeriod_20 (bi_f (by simp only [okK, okD, okP, okT, q_lt0, q_le4, q_lt3, q_le32, q_lt32, q_lt31, decide_eq_true_eq, decide_eq_false_iff_not] at *; (try simp only [fa_lt, fa_le] at *); omega)).symm
      · refine lv_iconst (v := nI 1) hx hb dX3_isPeriod_15 (by decide) ?_
        refine lv_goto (tgt := 20) hx hb dX3_isPeriod_16 (by decide) ?_
        exact hret hI dX3_isPeriod_20 (bi_t (by simp only [okK, okD, okP, okT, q_lt0, q_le4, q_lt3, q_le32, q_lt32, q_lt31, decide_eq_true_eq, decide_eq_false_iff_not] at *; (try simp only [fa_lt, fa_le] at *); omega)).symm
set_option maxHeartbeats 4000000 in
set_option maxRecDepth 100000 in
theorem c_X3_place {l : Launch} {tm ky dy : Nat}  : roM l yX3_place cX3_place 3 (some .int) 0 0 [.int (nI tm), .int (nI ky), .int (nI dy)] (fun _ => True) (nI (128 * tm + 32 * ky + dy)) := by
  refine bd_ro (by decide) (Nat.le_of_ble_eq_true rfl) ?_
  intro p e s m args below meth c Q hF hpw hret ls hl
  obtain ⟨hx, hb, hml, hown, hts, hr, hlocks⟩ := id hF
  have hI : va_S noA s.heap s.heap [] := va_S.rf
  have hl : lv_has ls 3 [(0, .int (nI tm)), (1, .int (nI ky)), (2, .int (nI dy))] := hl
  suffices hgo : ∀ (H : Heap) (locs : List Loc), va_S noA s.heap H locs → ∀ ls : Array Slot, lv_has ls 3 [(0, .int (nI tm)), (1, .int (nI ky)), (2, .int (nI dy))] → W p l e (rmv 0 0) s m args below meth c H locs 0 0 Q (F0 m 0 ls []) from hgo _ _ hI ls hl
  intro H locs hI ls hl
  refine lv_sipush (v := nI 128) hx hb dX3_place_0 (by decide) ?_
  refine lv_iload_n hx hb dX3_place_3 rfl (lv_at hl 0 rfl) ?_
  refine lv_imul hx hb dX3_place_4 ?_
  refine tp (pk_mul _ _) ?_
  refine lv_bipush (v := nI 32) hx hb dX3_place_5 (by decide) ?_
  refine lv_iload_n hx hb dX3_place_7 rfl (lv_at hl 1 rfl) ?_
  refine lv_imul hx hb dX3_place_8 ?_
  refine tp (pk_mul _ _) ?_
  refine lv_iadd hx hb dX3_place_9 ?_
  refine tp (nI_add _ _) ?_
  refine lv_iload_n hx hb dX3_place_10 rfl (lv_at hl 2 rfl) ?_
  refine lv_iadd hx hb dX3_place_11 ?_
  refine tp (nI_add _ _) ?_
  exact hret hI dX3_place_12 (rfl)
set_option maxHeartbeats 4000000 in
set_option maxRecDepth 100000 in
theorem c_X3_isTime {l : Launch} {D : va_G} {cI cZ cJ : ClassId} {z : Nat} {b : Nat → Nat} {X : va_W} {t : Nat} {th : Nat → Bool} {vs : Nat → Int32} {kt : Nat → Bool} {kv : Nat → Int32} {wt : Int32} {wa : Nat → Int32} {fl tr ch : Int32} (ht : t < 40) {time : Int32}  : roM l yX3_isTime cX3_isTime 2 (some .boolean) 0 0 [.ref (b 0), .int (time)] (pw D cI cZ cJ z (mw b cI cZ (nI t) th vs kt kv wt wa fl tr ch X)) (bi (okT t time)) := by
  refine bd_rz (by decide) (Nat.le_of_ble_eq_true rfl) ?_
  intro p e s m args below meth c Q hF hpw hret ls hl
  obtain ⟨hx, hb, hml, hown, hts, hr, hlocks⟩ := id hF
  have hK := hpw.2.2.2
  have hI : wi D z noA (mw b cI cZ (nI t) th vs kt kv wt wa fl tr ch X) s s.heap [] := hpw.wi
  have hl : lv_has ls 2 [(0, .ref (b 0)), (1, .int (time))] := hl
  have ht31 : t < 2 ^ 31 := by omega
  suffices hgo : ∀ (H : Heap) (locs : List Loc), wi D z noA (mw b cI cZ (nI t) th vs kt kv wt wa fl tr ch X) s H locs → ∀ ls : Array Slot, lv_has ls 2 [(0, .ref (b 0)), (1, .int (time))] → W p l e (rmv 0 0) s m args below meth c H locs 0 0 Q (F0 m 0 ls []) from hgo _ _ hI ls hl
  intro H locs hI ls hl
  refine lv_iload_n hx hb dX3_isTime_0 rfl (lv_at hl 1 rfl) ?_
  refine lv_if_lt (tgt := 16) hx hb dX3_isTime_1 (by decide) (fun c1 => ?_) (fun c1 => ?_)
  · refine lv_iconst (v := nI 0) hx hb dX3_isTime_16 (by decide) ?_
    exact hret hI.2.2.2 dX3_isTime_17 (bi_f (by simp only [okK, okD, okP, okT, q_lt0, q_le4, q_lt3, q_le32, q_lt32, q_lt31, q_lt _ ht31, decide_eq_true_eq, decide_eq_false_iff_not] at *; (try simp only [fa_lt, fa_le] at *); omega)).symm
  · refine lv_iload_n hx hb dX3_isTime_4 rfl (lv_at hl 1 rfl) ?_
    refine lv_aload_n hx hb dX3_isTime_5 rfl (lv_at hl 0 rfl) ?_
    refine va_get (D := D) (ci := 3) (v := .int (nI t)) (C := RX3) (T := TX3) (N := 10) hx hb hts inX3 hown hK.1 hI.2.1 0 rfl rfl 0 (by decide) (hts _ k422) (fun _ h9 => h9) rfl dX3_isTime_6 ?_
    refine lv_icmp_gt (tgt := 16) hx hb dX3_isTime_9 (by decide) (fun c9 => ?_) (fun c9 => ?_)
    · refine lv_iconst (v := nI 0) hx hb dX3_isTime_16 (by decide) ?_
      exact hret hI.2.2.2 dX3_isTime_17 (bi_f (by simp only [okK, okD, okP, okT, q_lt0, q_le4, q_lt3, q_le32, q_lt32, q_lt31, q_lt _ ht31, decide_eq_true_eq, decide_eq_false_iff_not] at *; (try simp only [fa_lt, fa_le] at *); omega)).symm
    · refine lv_iconst (v := nI 1) hx hb dX3_isTime_12 (by decide) ?_
      refine lv_goto (tgt := 17) hx hb dX3_isTime_13 (by decide) ?_
      exact hret hI.2.2.2 dX3_isTime_17 (bi_t (by simp only [okK, okD, okP, okT, q_lt0, q_le4, q_lt3, q_le32, q_lt32, q_lt31, q_lt _ ht31, decide_eq_true_eq, decide_eq_false_iff_not] at *; (try simp only [fa_lt, fa_le] at *); omega)).symm
set_option maxHeartbeats 4000000 in
set_option maxRecDepth 100000 in
theorem c_X2_isTime {l : Launch} {D : va_G} {cI cZ cJ : ClassId} {z : Nat} {a : Nat → Nat} {X : va_W} {vals fil rb : Nat → Int32} {t : Nat} {wo : Nat → Int32} {cnt fn : Int32} (ht : t < 40) {time : Int32}  : roM l yX2_isTime cX2_isTime 2 (some .boolean) 0 0 [.ref (a 0), .int (time)] (pw D cI cZ cJ z (cw a cI vals fil rb (nI t) wo cnt fn X)) (bi (okT t time)) := by
  refine bd_rz (by decide) (Nat.le_of_ble_eq_true rfl) ?_
  intro p e s m args below meth c Q hF hpw hret ls hl
  obtain ⟨hx, hb, hml, hown, hts, hr, hlocks⟩ := id hF
  have hK := hpw.2.2.2
  have hI : wi D z noA (cw a cI vals fil rb (nI t) wo cnt fn X) s s.heap [] := hpw.wi
  have hl : lv_has ls 2 [(0, .ref (a 0)), (1, .int (time))] := hl
  have ht31 : t < 2 ^ 31 := by omega
  suffices hgo : ∀ (H : Heap) (locs : List Loc), wi D z noA (cw a cI vals fil rb (nI t) wo cnt fn X) s H locs → ∀ ls : Array Slot, lv_has ls 2 [(0, .ref (a 0)), (1, .int (time))] → W p l e (rmv 0 0) s m args below meth c H locs 0 0 Q (F0 m 0 ls []) from hgo _ _ hI ls hl
  intro H locs hI ls hl
  refine lv_iload_n hx hb dX2_isTime_0 rfl (lv_at hl 1 rfl) ?_
  refine lv_if_lt (tgt := 19) hx hb dX2_isTime_1 (by decide) (fun c1 => ?_) (fun c1 => ?_)
  · refine lv_iconst (v := nI 0) hx hb dX2_isTime_19 (by decide) ?_
    exact hret hI.2.2.2 dX2_isTime_20 (bi_f (by simp only [okK, okD, okP, okT, q_lt0, q_le4, q_lt3, q_le32, q_lt32, q_lt31, q_lt _ ht31, decide_eq_true_eq, decide_eq_false_iff_not] at *; (try simp only [fa_lt, fa_le] at *); omega)).symm
  · refine lv_iload_n hx hb dX2_isTime_4 rfl (lv_at hl 1 rfl) ?_
    refine lv_aload_n hx hb dX2_isTime_5 rfl (lv_at hl 0 rfl) ?_
    refine va_get (D := D) (ci := 2) (v := .ref (a 1)) (C := RX2) (T := TX2) (N := 3) hx hb hts inX2 hown hK.1 hI.2.1 0 rfl rfl 0 (by decide) (hts _ k56) (fun _ h9 => h9) rfl dX2_isTime_6 ?_
    refine va_getN (D := D) (ci := 0) (v := .int (nI t)) (C := RX0) (T := TX0) (N := 4) hx hb hts inX0 hown hK.1 hI.2.1 1 rfl rfl 3 (by decide) (va_Nw.use (w := nwP) rfl hK.2.1) (fun _ h9 => h9) rfl dX2_isTime_9 ?_
    refine lv_icmp_gt (tgt := 19) hx hb dX2_isTime_12 (by decide) (fun c12 => ?_) (fun c12 => ?_)
    · refine lv_iconst (v := nI 0) hx hb dX2_isTime_19 (by decide) ?_
      exact hret hI.2.2.2 dX2_isTime_20 (bi_f (by simp only [okK, okD, okP, okT, q_lt0, q_le4, q_lt3, q_le32, q_lt32, q_lt31, q_lt _ ht31, decide_eq_true_eq, decide_eq_false_iff_not] at *; (try simp only [fa_lt, fa_le] at *); omega)).symm
    · refine lv_iconst (v := nI 1) hx hb dX2_isTime_15 (by decide) ?_
      refine lv_goto (tgt := 20) hx hb dX2_isTime_16 (by decide) ?_
      exact hret hI.2.2.2 dX2_isTime_20 (bi_t (by simp only [okK, okD, okP, okT, q_lt0, q_le4, q_lt3, q_le32, q_lt32, q_lt31, q_lt _ ht31, decide_eq_true_eq, decide_eq_false_iff_not] at *; (try simp only [fa_lt, fa_le] at *); omega)).symm
set_option maxHeartbeats 4000000 in
set_option maxRecDepth 100000 in
theorem c_X3_alike {l : Launch} {D : va_G} {cI cZ cJ : ClassId} {z : Nat} {b : Nat → Nat} {X : va_W} {t : Nat} {th : Nat → Bool} {vs : Nat → Int32} {kt : Nat → Bool} {kv : Nat → Int32} {wt : Int32} {wa : Nat → Int32} {fl tr ch : Int32} {S : Sta} (hM : mAbs S th vs t) (ht : t < 40) {tm ky dy ot : Nat} (h1 : tm ≤ t) (h3 : ky < 4) (h2 : dy < 32) (h4 : ot < 32) : roM l yX3_alike cX3_alike 7 (some .boolean) 1 22 [.ref (b 0), .int (nI tm), .int (nI ky), .int (nI dy), .int (nI ot)] (pw D cI cZ cJ z (mw b cI cZ (nI t) th vs kt kv wt wa fl tr ch X)) (bi (al S (tm * 4 + ky) dy ot)) := by
  refine bd_rz (by decide) (Nat.le_of_ble_eq_true rfl) ?_
  intro p e s m args below meth c Q hF hpw hret ls hl
  obtain ⟨hx, hb, hml, hown, hts, hr, hlocks⟩ := id hF
  have hK := hpw.2.2.2
  have hI : wi D z noA (mw b cI cZ (nI t) th vs kt kv wt wa fl tr ch X) s s.heap [] := hpw.wi
  have hl : lv_has ls 7 [(0, .ref (b 0)), (1, .int (nI tm)), (2, .int (nI ky)), (3, .int (nI dy)), (4, .int (nI ot))] := hl
  suffices hgo : ∀ (H : Heap) (locs : List Loc), wi D z noA (mw b cI cZ (nI t) th vs kt kv wt wa fl tr ch X) s H locs → ∀ ls : Array Slot, lv_has ls 7 [(0, .ref (b 0)), (1, .int (nI tm)), (2, .int (nI ky)), (3, .int (nI dy)), (4, .int (nI ot))] → W p l e (rmv 1 22) s m args below meth c H locs 0 0 Q (F0 m 0 ls []) from hgo _ _ hI ls hl
  intro H locs hI ls hl
  refine lv_iload_n hx hb dX3_alike_0 rfl (lv_at hl 1 rfl) ?_
  refine lv_iload_n hx hb dX3_alike_1 rfl (lv_at hl 2 rfl) ?_
  refine lv_iload_n hx hb dX3_alike_2 rfl (lv_at hl 3 rfl) ?_
  refine k_ro (run_s (As := [.int (nI tm), .int (nI ky), .int (nI dy)]) (rest := []) hF (c_X3_place ) tt_blind (fun _ _ _ => trivial) cf_X3_place k492 ⟨Nat.le_of_ble_eq_true rfl, Nat.le_of_ble_eq_true rfl⟩ ⟨rfl, rfl⟩ ⟨Nat.le_of_ble_eq_true rfl, Nat.le_of_ble_eq_true rfl⟩ rfl hl.1 rfl (Nat.le_of_ble_eq_true rfl) dX3_alike_3) hI (fun H locs hI => ?_)
  refine lv_istore (lv' := [(5, .int (nI (128 * tm + 32 * ky + dy))), (0, .ref (b 0)), (1, .int (nI tm)), (2, .int (nI ky)), (3, .int (nI dy)), (4, .int (nI ot))]) hx hb dX3_alike_6 hl (by decide) rfl (fun ls hl => ?_)
  refine lv_iload_n hx hb dX3_alike_8 rfl (lv_at hl 2 rfl) ?_
  refine lv_iload_n hx hb dX3_alike_9 rfl (lv_at hl 3 rfl) ?_
  refine lv_iload hx hb dX3_alike_10 (lv_at hl 5 rfl) ?_
  refine k_ro (run_s (As := [.int (nI tm), .int (nI ky), .int (nI ot)]) (rest := []) hF (c_X3_place ) tt_blind (fun _ _ _ => trivial) cf_X3_place k492 ⟨Nat.le_of_ble_eq_true rfl, Nat.le_of_ble_eq_true rfl⟩ ⟨rfl, rfl⟩ ⟨Nat.le_of_ble_eq_true rfl, Nat.le_of_ble_eq_true rfl⟩ rfl hl.1 rfl (Nat.le_of_ble_eq_true rfl) dX3_alike_12) hI (fun H locs hI => ?_)
  refine lv_istore (lv' := [(6, .int (nI (128 * tm + 32 * ky + ot))), (5, .int (nI (128 * tm + 32 * ky + dy))), (0, .ref (b 0)), (1, .int (nI tm)), (2, .int (nI ky)), (3, .int (nI dy)), (4, .int (nI ot))]) hx hb dX3_alike_15 hl (by decide) rfl (fun ls hl => ?_)
  refine lv_aload_n hx hb dX3_alike_17 rfl (lv_at hl 2 rfl) ?_
  refine va_get (D := D) (ci := 3) (v := .ref (b 1)) (C := RX3) (T := TX3) (N := 10) hx hb hts inX3 hown hK.1 hI.2.1 0 rfl rfl 1 (by decide) (hts _ k423) (fun _ h9 => h9) rfl dX3_alike_18 ?_
  refine lv_iload hx hb dX3_alike_21 (lv_at hl 1 rfl) ?_
  refine zb_ld (f := th) (k := 128 * tm + 32 * ky + dy) hx hb hK hI 1 rfl dX3_alike_23 (by omega) (by decide) ?_
  refine bz_eq (tgt := 58) hx hb dX3_alike_24 (by decide) (fun c24 => ?_) (fun c24 => ?_)
  · refine lv_iconst (v := nI 0) hx hb dX3_alike_58 (by decide) ?_
    exact hret hI.2.2.2 dX3_alike_59 (bi_f (by rw [al_m hM h1 h3 h2 h4]; simp [*])).symm
  · refine lv_aload_n hx hb dX3_alike_27 rfl (lv_at hl 2 rfl) ?_
    refine va_get (D := D) (ci := 3) (v := .ref (b 1)) (C := RX3) (T := TX3) (N := 10) hx hb hts inX3 hown hK.1 hI.2.1 0 rfl rfl 1 (by decide) (hts _ k423) (fun _ h9 => h9) rfl dX3_alike_28 ?_
    refine lv_iload hx hb dX3_alike_31 (lv_at hl 0 rfl) ?_
    refine zb_ld (f := th) (k := 128 * tm + 32 * ky + ot) hx hb hK hI 1 rfl dX3_alike_33 (by omega) (by decide) ?_
    refine bz_eq (tgt := 58) hx hb dX3_alike_34 (by decide) (fun c34 => ?_) (fun c34 => ?_)
    · refine lv_iconst (v := nI 0) hx hb dX3_alike_58 (by decide) ?_
      exact hret hI.2.2.2 dX3_alike_59 (bi_f (by rw [al_m hM h1 h3 h2 h4]; simp [*])).symm
    · refine lv_aload_n hx hb dX3_alike_37 rfl (lv_at hl 2 rfl) ?_
      refine va_get (D := D) (ci := 3) (v := .ref (b 2)) (C := RX3) (T := TX3) (N := 10) hx hb hts inX3 hown hK.1 hI.2.1 0 rfl rfl 2 (by decide) (hts _ k424) (fun _ h9 => h9) rfl dX3_alike_38 ?_
      refine lv_iload hx hb dX3_alike_41 (lv_at hl 1 rfl) ?_
      refine ia_ld (f := vs) (k := 128 * tm + 32 * ky + dy) hx hb hK hI 2 rfl dX3_alike_43 (by omega) (by decide) ?_
      refine lv_aload_n hx hb dX3_alike_44 rfl (lv_at hl 2 rfl) ?_
      refine va_get (D := D) (ci := 3) (v := .ref (b 2)) (C := RX3) (T := TX3) (N := 10) hx hb hts inX3 hown hK.1 hI.2.1 0 rfl rfl 2 (by decide) (hts _ k424) (fun _ h9 => h9) rfl dX3_alike_45 ?_
      refine lv_iload hx hb dX3_alike_48 (lv_at hl 0 rfl) ?_
      refine ia_ld (f := vs) (k := 128 * tm + 32 * ky + ot) hx hb hK hI 2 rfl dX3_alike_50 (by omega) (by decide) ?_
      refine lv_icmp_ne (tgt := 58) hx hb dX3_alike_51 (by decide) (fun c51 => ?_) (fun c51 => ?_)
      · refine lv_iconst (v := nI 0) hx hb dX3_alike_58 (by decide) ?_
        exact hret hI.2.2.2 dX3_alike_59 (bi_f (by rw [al_m hM h1 h3 h2 h4]; simp [*])).symm
      · refine lv_iconst (v := nI 1) hx hb dX3_alike_54 (by decide) ?_
        refine lv_goto (tgt := 59) hx hb dX3_alike_55 (by decide) ?_
        exact hret hI.2.2.2 dX3_alike_59 (bi_t (by rw [al_m hM h1 h3 h2 h4]; simp [*])).symm
set_option maxHeartbeats 4000000 in
set_option maxRecDepth 100000 in
theorem c_X3_begins {l : Launch} {D : va_G} {cI cZ cJ : ClassId} {z : Nat} {b : Nat → Nat} {X : va_W} {t : Nat} {th : Nat → Bool} {vs : Nat → Int32} {kt : Nat → Bool} {kv : Nat → Int32} {wt : Int32} {wa : Nat → Int32} {fl tr ch : Int32} {S : Sta} (hM : mAbs S th vs t) (ht : t < 40) {tm ky dy : Nat} (h1 : tm ≤ t) (h3 : ky < 4) (h2 : dy < 32) : roM l yX3_begins cX3_begins 4 (some .boolean) 2 48 [.ref (b 0), .int (nI tm), .int (nI ky), .int (nI dy)] (pw D cI cZ cJ z (mw b cI cZ (nI t) th vs kt kv wt wa fl tr ch X)) (bi (beg S (tm * 4 + ky) dy)) := by
  refine bd_rz (by decide) (Nat.le_of_ble_eq_true rfl) ?_
  intro p e s m args below meth c Q hF hpw hret ls hl
  obtain ⟨hx, hb, hml, hown, hts, hr, hlocks⟩ := id hF
  have hK := hpw.2.2.2
  have hI : wi D z noA (mw b cI cZ (nI t) th vs kt kv wt wa fl tr ch X) s s.heap [] := hpw.wi
  have hl : lv_has ls 4 [(0, .ref (b 0)), (1, .int (nI tm)), (2, .int (nI ky)), (3, .int (nI dy))] := hl
  suffices hgo : ∀ (H : Heap) (locs : List Loc), wi D z noA (mw b cI cZ (nI t) th vs kt kv wt wa fl tr ch X) s H locs → ∀ ls : Array Slot, lv_has ls 4 [(0, .ref (b 0)), (1, .int (nI tm)), (2, .int (nI ky)), (3, .int (nI dy))] → W p l e (rmv 2 48) s m args below meth c H locs 0 0 Q (F0 m 0 ls []) from hgo _ _ hI ls hl
  intro H locs hI ls hl
  refine lv_aload_n hx hb dX3_begins_0 rfl (lv_at hl 0 rfl) ?_
  refine va_get (D := D) (ci := 3) (v := .ref (b 1)) (C := RX3) (T := TX3) (N := 10) hx hb hts inX3 hown hK.1 hI.2.1 0 rfl rfl 1 (by decide) (hts _ k423) (fun _ h9 => h9) rfl dX3_begins_1 ?_
  refine lv_iload_n hx hb dX3_begins_4 rfl (lv_at hl 1 rfl) ?_
  refine lv_iload_n hx hb dX3_begins_5 rfl (lv_at hl 2 rfl) ?_
  refine lv_iload_n hx hb dX3_begins_6 rfl (lv_at hl 3 rfl) ?_
  refine k_ro (run_s (As := [.int (nI tm), .int (nI ky), .int (nI dy)]) (rest := [.ref (b 1)]) hF (c_X3_place ) tt_blind (fun _ _ _ => trivial) cf_X3_place k492 ⟨Nat.le_of_ble_eq_true rfl, Nat.le_of_ble_eq_true rfl⟩ ⟨rfl, rfl⟩ ⟨Nat.le_of_ble_eq_true rfl, Nat.le_of_ble_eq_true rfl⟩ rfl hl.1 rfl (Nat.le_of_ble_eq_true rfl) dX3_begins_7) hI (fun H locs hI => ?_)
  refine zb_ld (f := th) (k := 128 * tm + 32 * ky + dy) hx hb hK hI 1 rfl dX3_begins_10 (by omega) (by decide) ?_
  refine bz_eq (tgt := 35) hx hb dX3_begins_11 (by decide) (fun c11 => ?_) (fun c11 => ?_)
  · refine lv_iconst (v := nI 0) hx hb dX3_begins_35 (by decide) ?_
    exact hret hI.2.2.2 dX3_begins_36 (bi_f (by unfold beg; rw [has_m hM h1 h3 h2]; first | (simp [c11]; done) | (rw [con_f1 c15]; simp [c11]; done) | (rw [con_al c15]; simp [c11, c28]))).symm
  · refine lv_iload_n hx hb dX3_begins_14 rfl (lv_at hl 3 rfl) ?_
    refine nz_eq (tgt := 31) hx hb dX3_begins_15 (by decide) (by omega) (fun c15 => ?_) (fun c15 => ?_)
    · refine lv_iconst (v := nI 1) hx hb dX3_begins_31 (by decide) ?_
      refine lv_goto (tgt := 36) hx hb dX3_begins_32 (by decide) ?_
      exact hret hI.2.2.2 dX3_begins_36 (bi_t (by unfold beg; rw [has_m hM h1 h3 h2]; first | (simp [c11]; done) | (rw [con_f1 c15]; simp [c11]; done) | (rw [con_al c15]; simp [c11, c28]))).symm
    · refine lv_aload_n hx hb dX3_begins_18 rfl (lv_at hl 0 rfl) ?_
      refine lv_iload_n hx hb dX3_begins_19 rfl (lv_at hl 1 rfl) ?_
      refine lv_iload_n hx hb dX3_begins_20 rfl (lv_at hl 2 rfl) ?_
      refine lv_iload_n hx hb dX3_begins_21 rfl (lv_at hl 3 rfl) ?_
      refine lv_iconst (v := nI 1) hx hb dX3_begins_22 (by decide) ?_
      refine lv_isub hx hb dX3_begins_23 ?_
      refine tp (pk_sub (by omega)) ?_
      refine lv_iload_n hx hb dX3_begins_24 rfl (lv_at hl 3 rfl) ?_
      refine k_ro (run_v (As := [.int (nI tm), .int (nI ky), .int (nI (dy - 1)), .int (nI dy)]) (rest := []) hF hK hI (c_X3_alike hM ht (by omega) (by omega) (by omega) (by omega)) cf_X3_alike k511 0 3 rfl rfl ⟨Nat.le_of_ble_eq_true rfl, Nat.le_of_ble_eq_true rfl⟩ ⟨rfl, rfl⟩ ⟨Nat.le_of_ble_eq_true rfl, Nat.le_of_ble_eq_true rfl⟩ rfl hl.1 rfl (Nat.le_of_ble_eq_true rfl) dX3_begins_25) hI (fun H locs hI => ?_)
      refine bz_ne (tgt := 35) hx hb dX3_begins_28 (by decide) (fun c28 => ?_) (fun c28 => ?_)
      · refine lv_iconst (v := nI 0) hx hb dX3_begins_35 (by decide) ?_
        exact hret hI.2.2.2 dX3_begins_36 (bi_f (by unfold beg; rw [has_m hM h1 h3 h2]; first | (simp [c11]; done) | (rw [con_f1 c15]; simp [c11]; done) | (rw [con_al c15]; simp [c11, c28]))).symm
      · refine lv_iconst (v := nI 1) hx hb dX3_begins_31 (by decide) ?_
        refine lv_goto (tgt := 36) hx hb dX3_begins_32 (by decide) ?_
        exact hret hI.2.2.2 dX3_begins_36 (bi_t (by unfold beg; rw [has_m hM h1 h3 h2]; first | (simp [c11]; done) | (rw [con_f1 c15]; simp [c11]; done) | (rw [con_al c15]; simp [c11, c28]))).symm
set_option maxHeartbeats 4000000 in
set_option maxRecDepth 100000 in
theorem c_X3_endOf {l : Launch} {D : va_G} {cI cZ cJ : ClassId} {z : Nat} {b : Nat → Nat} {X : va_W} {t : Nat} {th : Nat → Bool} {vs : Nat → Int32} {kt : Nat → Bool} {kv : Nat → Int32} {wt : Int32} {wa : Nat → Int32} {fl tr ch : Int32} {S : Sta} (hM : mAbs S th vs t) (ht : t < 40) {tm ky dy : Nat} (h1 : tm ≤ t) (h3 : ky < 4) (h2 : dy < 32) : roM l yX3_endOf cX3_endOf 5 (some .int) 2 48 [.ref (b 0), .int (nI tm), .int (nI ky), .int (nI dy)] (pw D cI cZ cJ z (mw b cI cZ (nI t) th vs kt kv wt wa fl tr ch X)) (nI (rend S (tm * 4 + ky) dy)) := by
  refine bd_ro (by decide) (Nat.le_of_ble_eq_true rfl) ?_
  intro p e s m args below meth c Q hF hpw hret ls hl
  obtain ⟨hx, hb, hml, hown, hts, hr, hlocks⟩ := id hF
  have hK := hpw.2.2.2
  have hI : wi D z noA (mw b cI cZ (nI t) th vs kt kv wt wa fl tr ch X) s s.heap [] := hpw.wi
  have hl : lv_has ls 5 [(0, .ref (b 0)), (1, .int (nI tm)), (2, .int (nI ky)), (3, .int (nI dy))] := hl
  suffices hgo : ∀ (H : Heap) (locs : List Loc), wi D z noA (mw b cI cZ (nI t) th vs kt kv wt wa fl tr ch X) s H locs → ∀ ls : Array Slot, lv_has ls 5 [(0, .ref (b 0)), (1, .int (nI tm)), (2, .int (nI ky)), (3, .int (nI dy))] → W p l e (rmv 2 48) s m args below meth c H locs 0 0 Q (F0 m 0 ls []) from hgo _ _ hI ls hl
  intro H locs hI ls hl
  refine lv_iload_n hx hb dX3_endOf_0 rfl (lv_at hl 3 rfl) ?_
  refine lv_iconst (v := nI 1) hx hb dX3_endOf_1 (by decide) ?_
  refine lv_iadd hx hb dX3_endOf_2 ?_
  refine tp (nI_add _ _) ?_
  refine lv_istore (lv' := [(4, .int (nI (dy + 1))), (0, .ref (b 0)), (1, .int (nI tm)), (2, .int (nI ky)), (3, .int (nI dy))]) hx hb dX3_endOf_3 hl (by decide) rfl (fun ls hl => ?_)
  have J5 : ∀ (n5_ : Nat) (x : Nat) (hx1 : x ≤ 32) (hx0 : dy < x) (hxs : S (tm * 4 + ky) (x - 1) = S (tm * 4 + ky) dy) (hxe : rend S (tm * 4 + ky) dy = finF S (tm * 4 + ky) (32 - x) x) (hm5 : 32 < x + n5_) (H : Heap) (locs : List Loc), wi D z noA (mw b cI cZ (nI t) th vs kt kv wt wa fl tr ch X) s H locs → ∀ ls : Array Slot, lv_has ls 5 [(0, .ref (b 0)), (1, .int (nI tm)), (2, .int (nI ky)), (3, .int (nI dy)), (4, .int (nI x))] → W p l e (rmv 2 48) s m args below meth c H locs 0 0 Q (F0 m 5 ls []) := by
    intro n5_
    induction n5_ with
    | zero => intro x hx1 hx0 hxs hxe hm5; exact absurd hm5 (by omega)
    | succ n5_ ih5 =>
      intro x hx1 hx0 hxs hxe hm5 H locs hI ls hl
      refine lv_iload hx hb dX3_endOf_5 (lv_at hl 4 rfl) ?_
      refine lv_bipush (v := nI 32) hx hb dX3_endOf_7 (by decide) ?_
      refine nb_ge (tgt := 30) hx hb dX3_endOf_9 (by decide) (by omega) (by omega) (fun c9 => ?_) (fun c9 => ?_)
      · refine lv_iload hx hb dX3_endOf_30 (lv_at hl 4 rfl) ?_
        exact hret hI.2.2.2 dX3_endOf_32 ((by rw [hxe]; first | (rw [show 32 - x = 0 by omega]; rfl) | rw [fin_no ((al_con (by omega) hxs).symm.trans c21)]))
      · refine lv_aload_n hx hb dX3_endOf_12 rfl (lv_at hl 0 rfl) ?_
        refine lv_iload_n hx hb dX3_endOf_13 rfl (lv_at hl 1 rfl) ?_
        refine lv_iload_n hx hb dX3_endOf_14 rfl (lv_at hl 2 rfl) ?_
        refine lv_iload_n hx hb dX3_endOf_15 rfl (lv_at hl 3 rfl) ?_
        refine lv_iload hx hb dX3_endOf_16 (lv_at hl 4 rfl) ?_
        refine k_ro (run_v (As := [.int (nI tm), .int (nI ky), .int (nI dy), .int (nI x)]) (rest := []) hF hK hI (c_X3_alike hM ht (by omega) (by omega) (by omega) (by omega)) cf_X3_alike k511 0 3 rfl rfl ⟨Nat.le_of_ble_eq_true rfl, Nat.le_of_ble_eq_true rfl⟩ ⟨rfl, rfl⟩ ⟨Nat.le_of_ble_eq_true rfl, Nat.le_of_ble_eq_true rfl⟩ rfl hl.1 rfl (Nat.le_of_ble_eq_true rfl) dX3_endOf_18) hI (fun H locs hI => ?_)
        refine bz_eq (tgt := 30) hx hb dX3_endOf_21 (by decide) (fun c21 => ?_) (fun c21 => ?_)
        · refine lv_iload hx hb dX3_endOf_30 (lv_at hl 4 rfl) ?_
          exact hret hI.2.2.2 dX3_endOf_32 ((by rw [hxe]; first | (rw [show 32 - x = 0 by omega]; rfl) | rw [fin_no ((al_con (by omega) hxs).symm.trans c21)]))
        · refine lv_iinc (v := nI (x + 1)) (lv' := [(4, .int (nI (x + 1))), (0, .ref (b 0)), (1, .int (nI tm)), (2, .int (nI ky)), (3, .int (nI dy))]) hx hb dX3_endOf_24 hl (k := 4) rfl (inc_n _ 1) (by decide) rfl (fun ls hl => ?_)
          refine lv_goto (tgt := 5) hx hb dX3_endOf_27 (by decide) ?_
          exact ih5 (x + 1) (by omega) (by omega) (al_eq c21) (hxe.trans (fin_go (by omega) ((al_con (by omega) hxs).symm.trans c21))) (by omega) H locs hI ls (lv_sub hl [1, 2, 3, 4, 0] rfl)
  exact J5 (32 + 1) (dy + 1) (by omega) (by omega) (by rw [Nat.add_sub_cancel]) (rend_eq h2) (by omega) H locs hI ls (lv_sub hl [1, 2, 3, 4, 0] rfl)
set_option maxHeartbeats 4000000 in
set_option maxRecDepth 100000 in
theorem c_X3_isRun {l : Launch} {D : va_G} {cI cZ cJ : ClassId} {z : Nat} {b : Nat → Nat} {X : va_W} {t : Nat} {th : Nat → Bool} {vs : Nat → Int32} {kt : Nat → Bool} {kv : Nat → Int32} {wt : Int32} {wa : Nat → Int32} {fl tr ch : Int32} {S : Sta} (hM : mAbs S th vs t) (ht : t < 40) {tm ky dy : Nat} (h1 : tm ≤ t) (h3 : ky < 4) (h2 : dy < 32) {to : Nat} {v : Int32} (h4 : to ≤ 32) : roM l yX3_isRun cX3_isRun 6 (some .boolean) 3 72 [.ref (b 0), .int (nI tm), .int (nI ky), .int (nI dy), .int (nI to), .int (v)] (pw D cI cZ cJ z (mw b cI cZ (nI t) th vs kt kv wt wa fl tr ch X)) (bi (isRn S (tm * 4 + ky) dy to v)) := by
  refine bd_rz (by decide) (Nat.le_of_ble_eq_true rfl) ?_
  intro p e s m args below meth c Q hF hpw hret ls hl
  obtain ⟨hx, hb, hml, hown, hts, hr, hlocks⟩ := id hF
  have hK := hpw.2.2.2
  have hI : wi D z noA (mw b cI cZ (nI t) th vs kt kv wt wa fl tr ch X) s s.heap [] := hpw.wi
  have hl : lv_has ls 6 [(0, .ref (b 0)), (1, .int (nI tm)), (2, .int (nI ky)), (3, .int (nI dy)), (4, .int (nI to)), (5, .int (v))] := hl
  suffices hgo : ∀ (H : Heap) (locs : List Loc), wi D z noA (mw b cI cZ (nI t) th vs kt kv wt wa fl tr ch X) s H locs → ∀ ls : Array Slot, lv_has ls 6 [(0, .ref (b 0)), (1, .int (nI tm)), (2, .int (nI ky)), (3, .int (nI dy)), (4, .int (nI to)), (5, .int (v))] → W p l e (rmv 3 72) s m args below meth c H locs 0 0 Q (F0 m 0 ls []) from hgo _ _ hI ls hl
  intro H locs hI ls hl
  refine lv_aload_n hx hb dX3_isRun_0 rfl (lv_at hl 0 rfl) ?_
  refine lv_iload_n hx hb dX3_isRun_1 rfl (lv_at hl 1 rfl) ?_
  refine lv_iload_n hx hb dX3_isRun_2 rfl (lv_at hl 2 rfl) ?_
  refine lv_iload_n hx hb dX3_isRun_3 rfl (lv_at hl 3 rfl) ?_
  refine k_ro (run_v (As := [.int (nI tm), .int (nI ky), .int (nI dy)]) (rest := []) hF hK hI (c_X3_begins hM ht (by omega) (by omega) (by omega)) cf_X3_begins k507 0 3 rfl rfl ⟨Nat.le_of_ble_eq_true rfl, Nat.le_of_ble_eq_true rfl⟩ ⟨rfl, rfl⟩ ⟨Nat.le_of_ble_eq_true rfl, Nat.le_of_ble_eq_true rfl⟩ rfl hl.1 rfl (Nat.le_of_ble_eq_true rfl) dX3_isRun_4) hI (fun H locs hI => ?_)
  refine bz_eq (tgt := 42) hx hb dX3_isRun_7 (by decide) (fun c7 => ?_) (fun c7 => ?_)
  · refine lv_iconst (v := nI 0) hx hb dX3_isRun_42 (by decide) ?_
    exact hret hI.2.2.2 dX3_isRun_43 (bi_f (by unfold isRn; first | (simp [c7]; done) | (simp [c7, c19]; done) | (rw [val_m hM h1 h3 h2 (beg_some c7)]; simp [c7, c19, c35]))).symm
  · refine lv_aload_n hx hb dX3_isRun_10 rfl (lv_at hl 0 rfl) ?_
    refine lv_iload_n hx hb dX3_isRun_11 rfl (lv_at hl 1 rfl) ?_
    refine lv_iload_n hx hb dX3_isRun_12 rfl (lv_at hl 2 rfl) ?_
    refine lv_iload_n hx hb dX3_isRun_13 rfl (lv_at hl 3 rfl) ?_
    refine k_ro (run_v (As := [.int (nI tm), .int (nI ky), .int (nI dy)]) (rest := []) hF hK hI (c_X3_endOf hM ht (by omega) (by omega) (by omega)) cf_X3_endOf k515 0 3 rfl rfl ⟨Nat.le_of_ble_eq_true rfl, Nat.le_of_ble_eq_true rfl⟩ ⟨rfl, rfl⟩ ⟨Nat.le_of_ble_eq_true rfl, Nat.le_of_ble_eq_true rfl⟩ rfl hl.1 rfl (Nat.le_of_ble_eq_true rfl) dX3_isRun_14) hI (fun H locs hI => ?_)
    refine lv_iload hx hb dX3_isRun_17 (lv_at hl 4 rfl) ?_
    have g1 := rend_in (S := S) (sl := tm * 4 + ky) h2
    refine nb_ne (tgt := 42) hx hb dX3_isRun_19 (by decide) (by omega) (by omega) (fun c19 => ?_) (fun c19 => ?_)
    · refine lv_iconst (v := nI 0) hx hb dX3_isRun_42 (by decide) ?_
      exact hret hI.2.2.2 dX3_isRun_43 (bi_f (by unfold isRn; first | (simp [c7]; done) | (simp [c7, c19]; done) | (rw [val_m hM h1 h3 h2 (beg_some c7)]; simp [c7, c19, c35]))).symm
    · refine lv_aload_n hx hb dX3_isRun_22 rfl (lv_at hl 0 rfl) ?_
      refine va_get (D := D) (ci := 3) (v := .ref (b 2)) (C := RX3) (T := TX3) (N := 10) hx hb hts inX3 hown hK.1 hI.2.1 0 rfl rfl 2 (by decide) (hts _ k424) (fun _ h9 => h9) rfl dX3_isRun_23 ?_
      refine lv_iload_n hx hb dX3_isRun_26 rfl (lv_at hl 1 rfl) ?_
      refine lv_iload_n hx hb dX3_isRun_27 rfl (lv_at hl 2 rfl) ?_
      refine lv_iload_n hx hb dX3_isRun_28 rfl (lv_at hl 3 rfl) ?_
      refine k_ro (run_s (As := [.int (nI tm), .int (nI ky), .int (nI dy)]) (rest := [.ref (b 2)]) hF (c_X3_place ) tt_blind (fun _ _ _ => trivial) cf_X3_place k492 ⟨Nat.le_of_ble_eq_true rfl, Nat.le_of_ble_eq_true rfl⟩ ⟨rfl, rfl⟩ ⟨Nat.le_of_ble_eq_true rfl, Nat.le_of_ble_eq_true rfl⟩ rfl hl.1 rfl (Nat.le_of_ble_eq_true rfl) dX3_isRun_29) hI (fun H locs hI => ?_)
      refine ia_ld (f := vs) (k := 128 * tm + 32 * ky + dy) hx hb hK hI 2 rfl dX3_isRun_32 (by omega) (by decide) ?_
      refine lv_iload hx hb dX3_isRun_33 (lv_at hl 5 rfl) ?_
      refine lv_icmp_ne (tgt := 42) hx hb dX3_isRun_35 (by decide) (fun c35 => ?_) (fun c35 => ?_)
      · refine lv_iconst (v := nI 0) hx hb dX3_isRun_42 (by decide) ?_
        exact hret hI.2.2.2 dX3_isRun_43 (bi_f (by unfold isRn; first | (simp [c7]; done) | (simp [c7, c19]; done) | (rw [val_m hM h1 h3 h2 (beg_some c7)]; simp [c7, c19, c35]))).symm
      · refine lv_iconst (v := nI 1) hx hb dX3_isRun_38 (by decide) ?_
        refine lv_goto (tgt := 43) hx hb dX3_isRun_39 (by decide) ?_
        exact hret hI.2.2.2 dX3_isRun_43 (bi_t (by unfold isRn; first | (simp [c7]; done) | (simp [c7, c19]; done) | (rw [val_m hM h1 h3 h2 (beg_some c7)]; simp [c7, c19, c35]))).symm
set_option maxHeartbeats 4000000 in
set_option maxRecDepth 100000 in
theorem c_X3_isRow {l : Launch} {D : va_G} {cI cZ cJ : ClassId} {z : Nat} {b : Nat → Nat} {X : va_W} {t : Nat} {th : Nat → Bool} {vs : Nat → Int32} {kt : Nat → Bool} {kv : Nat → Int32} {wt : Int32} {wa : Nat → Int32} {fl tr ch : Int32} {S : Sta} (hM : mAbs S th vs t) (ht : t < 40) {tm ky dy : Nat} (h1 : tm ≤ t) (h3 : ky < 4) (h2 : dy < 32) : roM l yX3_isRow cX3_isRow 4 (some .boolean) 4 97 [.ref (b 0), .int (nI tm), .int (nI ky), .int (nI dy)] (pw D cI cZ cJ z (mw b cI cZ (nI t) th vs kt kv wt wa fl tr ch X)) (bi (isRw S (tm * 4 + ky) dy)) := by
  refine bd_rz (by decide) (Nat.le_of_ble_eq_true rfl) ?_
  intro p e s m args below meth c Q hF hpw hret ls hl
  obtain ⟨hx, hb, hml, hown, hts, hr, hlocks⟩ := id hF
  have hK := hpw.2.2.2
  have hI : wi D z noA (mw b cI cZ (nI t) th vs kt kv wt wa fl tr ch X) s s.heap [] := hpw.wi
  have hl : lv_has ls 4 [(0, .ref (b 0)), (1, .int (nI tm)), (2, .int (nI ky)), (3, .int (nI dy))] := hl
  suffices hgo : ∀ (H : Heap) (locs : List Loc), wi D z noA (mw b cI cZ (nI t) th vs kt kv wt wa fl tr ch X) s H locs → ∀ ls : Array Slot, lv_has ls 4 [(0, .ref (b 0)), (1, .int (nI tm)), (2, .int (nI ky)), (3, .int (nI dy))] → W p l e (rmv 4 97) s m args below meth c H locs 0 0 Q (F0 m 0 ls []) from hgo _ _ hI ls hl
  intro H locs hI ls hl
  refine lv_aload_n hx hb dX3_isRow_0 rfl (lv_at hl 0 rfl) ?_
  refine lv_iload_n hx hb dX3_isRow_1 rfl (lv_at hl 1 rfl) ?_
  refine lv_iload_n hx hb dX3_isRow_2 rfl (lv_at hl 2 rfl) ?_
  refine lv_iload_n hx hb dX3_isRow_3 rfl (lv_at hl 3 rfl) ?_
  refine k_ro (run_v (As := [.int (nI tm), .int (nI ky), .int (nI dy)]) (rest := []) hF hK hI (c_X3_begins hM ht (by omega) (by omega) (by omega)) cf_X3_begins k507 0 3 rfl rfl ⟨Nat.le_of_ble_eq_true rfl, Nat.le_of_ble_eq_true rfl⟩ ⟨rfl, rfl⟩ ⟨Nat.le_of_ble_eq_true rfl, Nat.le_of_ble_eq_true rfl⟩ rfl hl.1 rfl (Nat.le_of_ble_eq_true rfl) dX3_isRow_4) hI (fun H locs hI => ?_)
  refine bz_ne (tgt := 12) hx hb dX3_isRow_7 (by decide) (fun c7 => ?_) (fun c7 => ?_)
  · refine lv_iload_n hx hb dX3_isRow_12 rfl (lv_at hl 1 rfl) ?_
    refine nz_eq (tgt := 46) hx hb dX3_isRow_13 (by decide) (by omega) (fun c13 => ?_) (fun c13 => ?_)
    · refine lv_iconst (v := nI 1) hx hb dX3_isRow_46 (by decide) ?_
      refine lv_goto (tgt := 51) hx hb dX3_isRow_47 (by decide) ?_
      exact hret hI.2.2.2 dX3_isRow_51 (bi_t (by rw [isRw_m h3 c7]; first | (simp [c13]; done) | (rw [← isRn_shr (val_m hM h1 h3 h2 (beg_some c7)), c43]; simp [c13]))).symm
    · refine lv_aload_n hx hb dX3_isRow_16 rfl (lv_at hl 0 rfl) ?_
      refine lv_iload_n hx hb dX3_isRow_17 rfl (lv_at hl 1 rfl) ?_
      refine lv_iconst (v := nI 1) hx hb dX3_isRow_18 (by decide) ?_
      refine lv_isub hx hb dX3_isRow_19 ?_
      refine tp (pk_sub (by omega)) ?_
      refine lv_iload_n hx hb dX3_isRow_20 rfl (lv_at hl 2 rfl) ?_
      refine lv_iload_n hx hb dX3_isRow_21 rfl (lv_at hl 3 rfl) ?_
      refine lv_aload_n hx hb dX3_isRow_22 rfl (lv_at hl 0 rfl) ?_
      refine lv_iload_n hx hb dX3_isRow_23 rfl (lv_at hl 1 rfl) ?_
      refine lv_iload_n hx hb dX3_isRow_24 rfl (lv_at hl 2 rfl) ?_
      refine lv_iload_n hx hb dX3_isRow_25 rfl (lv_at hl 3 rfl) ?_
      refine k_ro (run_v (As := [.int (nI tm), .int (nI ky), .int (nI dy)]) (rest := [.int (nI dy), .int (nI ky), .int (nI (tm - 1)), .ref (b 0)]) hF hK hI (c_X3_endOf hM ht (by omega) (by omega) (by omega)) cf_X3_endOf k515 0 3 rfl rfl ⟨Nat.le_of_ble_eq_true rfl, Nat.le_of_ble_eq_true rfl⟩ ⟨rfl, rfl⟩ ⟨Nat.le_of_ble_eq_true rfl, Nat.le_of_ble_eq_true rfl⟩ rfl hl.1 rfl (Nat.le_of_ble_eq_true rfl) dX3_isRow_26) hI (fun H locs hI => ?_)
      refine lv_aload_n hx hb dX3_isRow_29 rfl (lv_at hl 0 rfl) ?_
      refine va_get (D := D) (ci := 3) (v := .ref (b 2)) (C := RX3) (T := TX3) (N := 10) hx hb hts inX3 hown hK.1 hI.2.1 0 rfl rfl 2 (by decide) (hts _ k424) (fun _ h9 => h9) rfl dX3_isRow_30 ?_
      refine lv_iload_n hx hb dX3_isRow_33 rfl (lv_at hl 1 rfl) ?_
      refine lv_iload_n hx hb dX3_isRow_34 rfl (lv_at hl 2 rfl) ?_
      refine lv_iload_n hx hb dX3_isRow_35 rfl (lv_at hl 3 rfl) ?_
      refine k_ro (run_s (As := [.int (nI tm), .int (nI ky), .int (nI dy)]) (rest := [.ref (b 2), .int (nI (rend S (tm * 4 + ky) dy)), .int (nI dy), .int (nI ky), .int (nI (tm - 1)), .ref (b 0)]) hF (c_X3_place ) tt_blind (fun _ _ _ => trivial) cf_X3_place k492 ⟨Nat.le_of_ble_eq_true rfl, Nat.le_of_ble_eq_true rfl⟩ ⟨rfl, rfl⟩ ⟨Nat.le_of_ble_eq_true rfl, Nat.le_of_ble_eq_true rfl⟩ rfl hl.1 rfl (Nat.le_of_ble_eq_true rfl) dX3_isRow_36) hI (fun H locs hI => ?_)
      refine ia_ld (f := vs) (k := 128 * tm + 32 * ky + dy) hx hb hK hI 2 rfl dX3_isRow_39 (by omega) (by decide) ?_
      have g1 := rend_in (S := S) (sl := tm * 4 + ky) h2
      refine k_ro (run_v (As := [.int (nI (tm - 1)), .int (nI ky), .int (nI dy), .int (nI (rend S (tm * 4 + ky) dy)), .int (vs (128 * tm + 32 * ky + dy))]) (rest := []) hF hK hI (c_X3_isRun hM ht (by omega) (by omega) (by omega) (by omega)) cf_X3_isRun k519 0 3 rfl rfl ⟨Nat.le_of_ble_eq_true rfl, Nat.le_of_ble_eq_true rfl⟩ ⟨rfl, rfl⟩ ⟨Nat.le_of_ble_eq_true rfl, Nat.le_of_ble_eq_true rfl⟩ rfl hl.1 rfl (Nat.le_of_ble_eq_true rfl) dX3_isRow_40) hI (fun H locs hI => ?_)
      refine bz_ne (tgt := 50) hx hb dX3_isRow_43 (by decide) (fun c43 => ?_) (fun c43 => ?_)
      · refine lv_iconst (v := nI 0) hx hb dX3_isRow_50 (by decide) ?_
        exact hret hI.2.2.2 dX3_isRow_51 (bi_f (by rw [isRw_m h3 c7]; first | (simp [c13]; done) | (rw [← isRn_shr (val_m hM h1 h3 h2 (beg_some c7)), c43]; simp [c13]))).symm
      · refine lv_iconst (v := nI 1) hx hb dX3_isRow_46 (by decide) ?_
        refine lv_goto (tgt := 51) hx hb dX3_isRow_47 (by decide) ?_
        exact hret hI.2.2.2 dX3_isRow_51 (bi_t (by rw [isRw_m h3 c7]; first | (simp [c13]; done) | (rw [← isRn_shr (val_m hM h1 h3 h2 (beg_some c7)), c43]; simp [c13]))).symm
  · refine lv_iconst (v := nI 0) hx hb dX3_isRow_10 (by decide) ?_
    exact hret hI.2.2.2 dX3_isRow_11 (bi_f (by simp [isRw, c7])).symm
set_option maxHeartbeats 4000000 in
set_option maxRecDepth 100000 in
theorem c_X3_countRows {l : Launch} {D : va_G} {cI cZ cJ : ClassId} {z : Nat} {b : Nat → Nat} {X : va_W} {t : Nat} {th : Nat → Bool} {vs : Nat → Int32} {kt : Nat → Bool} {kv : Nat → Int32} {wt : Int32} {wa : Nat → Int32} {fl tr ch : Int32} {S : Sta} (hM : mAbs S th vs t) (ht : t < 40)  : roM l yX3_countRows cX3_countRows 5 (some .int) 5 120 [.ref (b 0)] (pw D cI cZ cJ z (mw b cI cZ (nI t) th vs kt kv wt wa fl tr ch X)) (nI (rowsTo S (4 * (t + 1)))) := by
  refine bd_ro (by decide) (Nat.le_of_ble_eq_true rfl) ?_
  intro p e s m args below meth c Q hF hpw hret ls hl
  obtain ⟨hx, hb, hml, hown, hts, hr, hlocks⟩ := id hF
  have hK := hpw.2.2.2
  have hI : wi D z noA (mw b cI cZ (nI t) th vs kt kv wt wa fl tr ch X) s s.heap [] := hpw.wi
  have hl : lv_has ls 5 [(0, .ref (b 0))] := hl
  suffices hgo : ∀ (H : Heap) (locs : List Loc), wi D z noA (mw b cI cZ (nI t) th vs kt kv wt wa fl tr ch X) s H locs → ∀ ls : Array Slot, lv_has ls 5 [(0, .ref (b 0))] → W p l e (rmv 5 120) s m args below meth c H locs 0 0 Q (F0 m 0 ls []) from hgo _ _ hI ls hl
  intro H locs hI ls hl
  refine lv_iconst (v := nI 0) hx hb dX3_countRows_0 (by decide) ?_
  refine lv_istore_n (lv' := [(1, .int (nI 0)), (0, .ref (b 0))]) hx hb dX3_countRows_1 rfl hl (by decide) rfl (fun ls hl => ?_)
  refine lv_iconst (v := nI 0) hx hb dX3_countRows_2 (by decide) ?_
  refine lv_istore_n (lv' := [(2, .int (nI 0)), (1, .int (nI 0)), (0, .ref (b 0))]) hx hb dX3_countRows_3 rfl hl (by decide) rfl (fun ls hl => ?_)
  have J4 : ∀ (n4_ : Nat) (y : Nat) (n1 : Nat) (hy : y ≤ 4) (hn4 : n1 = fb_sm (rowsK S t) y) (hm4 : 4 < y + n4_) (H : Heap) (locs : List Loc), wi D z noA (mw b cI cZ (nI t) th vs kt kv wt wa fl tr ch X) s H locs → ∀ ls : Array Slot, lv_has ls 5 [(0, .ref (b 0)), (1, .int (nI n1)), (2, .int (nI y))] → W p l e (rmv 5 120) s m args below meth c H locs 0 0 Q (F0 m 4 ls []) := by
    intro n4_
    induction n4_ with
    | zero => intro y n1 hy hn4 hm4; exact absurd hm4 (by omega)
    | succ n4_ ih4 =>
      intro y n1 hy hn4 hm4 H locs hI ls hl
      refine lv_iload_n hx hb dX3_countRows_4 rfl (lv_at hl 2 rfl) ?_
      refine lv_iconst (v := nI 4) hx hb dX3_countRows_5 (by decide) ?_
      refine nb_ge (tgt := 66) hx hb dX3_countRows_6 (by decide) (by omega) (by omega) (fun c6 => ?_) (fun c6 => ?_)
      · refine lv_iload_n hx hb dX3_countRows_66 rfl (lv_at hl 1 rfl) ?_
        exact hret hI.2.2.2 dX3_countRows_67 ((by rw [hn4, show y = 4 by omega, rows_all]))
      · refine lv_iconst (v := nI 0) hx hb dX3_countRows_9 (by decide) ?_
        refine lv_istore_n (lv' := [(3, .int (nI 0)), (0, .ref (b 0)), (1, .int (nI n1)), (2, .int (nI y))]) hx hb dX3_countRows_10 rfl hl (by decide) rfl (fun ls hl => ?_)
        have J11 : ∀ (n11_ : Nat) (x : Nat) (n1 : Nat) (hx1 : x ≤ t + 1) (hn11 : n1 = fb_sm (rowsK S t) y + fb_sm (fun w => rowsIn S (w * 4 + y)) x) (hm11 : t + 1 < x + n11_) (H : Heap) (locs : List Loc), wi D z noA (mw b cI cZ (nI t) th vs kt kv wt wa fl tr ch X) s H locs → ∀ ls : Array Slot, lv_has ls 5 [(0, .ref (b 0)), (1, .int (nI n1)), (2, .int (nI y)), (3, .int (nI x))] → W p l e (rmv 5 120) s m args below meth c H locs 0 0 Q (F0 m 11 ls []) := by
          intro n11_
          induction n11_ with
          | zero => intro x n1 hx1 hn11 hm11; exact absurd hm11 (by omega)
          | succ n11_ ih11 =>
            intro x n1 hx1 hn11 hm11 H locs hI ls hl
            refine lv_iload_n hx hb dX3_countRows_11 rfl (lv_at hl 3 rfl) ?_
            refine lv_aload_n hx hb dX3_countRows_12 rfl (lv_at hl 0 rfl) ?_
            refine va_get (D := D) (ci := 3) (v := .int (nI t)) (C := RX3) (T := TX3) (N := 10) hx hb hts inX3 hown hK.1 hI.2.1 0 rfl rfl 0 (by decide) (hts _ k422) (fun _ h9 => h9) rfl dX3_countRows_13 ?_
            refine nb_gt (tgt := 60) hx hb dX3_countRows_16 (by decide) (by omega) (by omega) (fun c16 => ?_) (fun c16 => ?_)
            · refine lv_iinc (v := nI (y + 1)) (lv' := [(2, .int (nI (y + 1))), (0, .ref (b 0)), (1, .int (nI n1)), (3, .int (nI x))]) hx hb dX3_countRows_60 hl (k := 2) rfl (inc_n _ 1) (by decide) rfl (fun ls hl => ?_)
              refine lv_goto (tgt := 4) hx hb dX3_countRows_63 (by decide) ?_
              exact ih4 (y + 1) n1 (by omega) (by have e9 : rowsK S t y = fb_sm (fun w => rowsIn S (w * 4 + y)) x := (by unfold rowsK; rw [show t + 1 = x by omega]); rw [fb_sm_succ]; omega) (by omega) H locs hI ls (lv_sub hl [1, 2, 0] rfl)
            · refine lv_iconst (v := nI 0) hx hb dX3_countRows_19 (by decide) ?_
              refine lv_istore (lv' := [(4, .int (nI 0)), (0, .ref (b 0)), (1, .int (nI n1)), (2, .int (nI y)), (3, .int (nI x))]) hx hb dX3_countRows_20 hl (by decide) rfl (fun ls hl => ?_)
              have J22 : ∀ (n22_ : Nat) (dy : Nat) (n1 : Nat) (hd : dy ≤ 32) (hn22 : n1 = fb_sm (rowsK S t) y + fb_sm (fun w => rowsIn S (w * 4 + y)) x + fb_ct (isRw S (x * 4 + y)) dy) (hm22 : 32 < dy + n22_) (H : Heap) (locs : List Loc), wi D z noA (mw b cI cZ (nI t) th vs kt kv wt wa fl tr ch X) s H locs → ∀ ls : Array Slot, lv_has ls 5 [(0, .ref (b 0)), (1, .int (nI n1)), (2, .int (nI y)), (3, .int (nI x)), (4, .int (nI dy))] → W p l e (rmv 5 120) s m args below meth c H locs 0 0 Q (F0 m 22 ls []) := by
                intro n22_
                induction n22_ with
                | zero => intro dy n1 hd hn22 hm22; exact absurd hm22 (by omega)
                | succ n22_ ih22 =>
                  intro dy n1 hd hn22 hm22 H locs hI ls hl
                  refine lv_iload hx hb dX3_countRows_22 (lv_at hl 4 rfl) ?_
                  refine lv_bipush (v := nI 32) hx hb dX3_countRows_24 (by decide) ?_
                  refine nb_ge (tgt := 54) hx hb dX3_countRows_26 (by decide) (by omega) (by omega) (fun c26 => ?_) (fun c26 => ?_)
                  · refine lv_iinc (v := nI (x + 1)) (lv' := [(3, .int (nI (x + 1))), (0, .ref (b 0)), (1, .int (nI n1)), (2, .int (nI y)), (4, .int (nI dy))]) hx hb dX3_countRows_54 hl (k := 3) rfl (inc_n _ 1) (by decide) rfl (fun ls hl => ?_)
                    refine lv_goto (tgt := 11) hx hb dX3_countRows_57 (by decide) ?_
                    exact ih11 (x + 1) n1 (by omega) (by have e9 : rowsIn S (x * 4 + y) = fb_ct (isRw S (x * 4 + y)) dy := (by unfold rowsIn; rw [show 32 = dy by omega]); rw [fb_sm_succ]; show _ = _ + (_ + rowsIn S (x * 4 + y)); omega) (by omega) H locs hI ls (lv_sub hl [1, 2, 3, 0] rfl)
                  · refine lv_iload_n hx hb dX3_countRows_29 rfl (lv_at hl 1 rfl) ?_
                    refine lv_aload_n hx hb dX3_countRows_30 rfl (lv_at hl 0 rfl) ?_
                    refine lv_iload_n hx hb dX3_countRows_31 rfl (lv_at hl 3 rfl) ?_
                    refine lv_iload_n hx hb dX3_countRows_32 rfl (lv_at hl 2 rfl) ?_
                    refine lv_iload hx hb dX3_countRows_33 (lv_at hl 4 rfl) ?_
                    refine k_ro (run_v (As := [.int (nI x), .int (nI y), .int (nI dy)]) (rest := [.int (nI n1)]) hF hK hI (c_X3_isRow hM ht (by omega) (by omega) (by omega)) cf_X3_isRow k503 0 3 rfl rfl ⟨Nat.le_of_ble_eq_true rfl, Nat.le_of_ble_eq_true rfl⟩ ⟨rfl, rfl⟩ ⟨Nat.le_of_ble_eq_true rfl, Nat.le_of_ble_eq_true rfl⟩ rfl hl.1 rfl (Nat.le_of_ble_eq_true rfl) dX3_countRows_35) hI (fun H locs hI => ?_)
                    refine bz_eq (tgt := 45) hx hb dX3_countRows_38 (by decide) (fun c38 => ?_) (fun c38 => ?_)
                    · refine lv_iconst (v := nI 0) hx hb dX3_countRows_45 (by decide) ?_
                      refine lv_iadd hx hb dX3_countRows_46 ?_
                      refine tp (nI_add _ _) ?_
                      refine lv_istore_n (lv' := [(1, .int (nI (n1 + 0))), (0, .ref (b 0)), (2, .int (nI y)), (3, .int (nI x)), (4, .int (nI dy))]) hx hb dX3_countRows_47 rfl hl (by decide) rfl (fun ls hl => ?_)
                      refine lv_iinc (v := nI (dy + 1)) (lv' := [(4, .int (nI (dy + 1))), (1, .int (nI (n1 + 0))), (0, .ref (b 0)), (2, .int (nI y)), (3, .int (nI x))]) hx hb dX3_countRows_48 hl (k := 4) rfl (inc_n _ 1) (by decide) rfl (fun ls hl => ?_)
                      refine lv_goto (tgt := 22) hx hb dX3_countRows_51 (by decide) ?_
                      exact ih22 (dy + 1) (n1 + 0) (by omega) (by rw [fb_ct_succ, c38]; simp; omega) (by omega) H locs hI ls (lv_sub hl [2, 1, 3, 4, 0] rfl)
                    · refine lv_iconst (v := nI 1) hx hb dX3_countRows_41 (by decide) ?_
                      refine lv_goto (tgt := 46) hx hb dX3_countRows_42 (by decide) ?_
                      refine lv_iadd hx hb dX3_countRows_46 ?_
                      refine tp (nI_add _ _) ?_
                      refine lv_istore_n (lv' := [(1, .int (nI (n1 + 1))), (0, .ref (b 0)), (2, .int (nI y)), (3, .int (nI x)), (4, .int (nI dy))]) hx hb dX3_countRows_47 rfl hl (by decide) rfl (fun ls hl => ?_)
                      refine lv_iinc (v := nI (dy + 1)) (lv' := [(4, .int (nI (dy + 1))), (1, .int (nI (n1 + 1))), (0, .ref (b 0)), (2, .int (nI y)), (3, .int (nI x))]) hx hb dX3_countRows_48 hl (k := 4) rfl (inc_n _ 1) (by decide) rfl (fun ls hl => ?_)
                      refine lv_goto (tgt := 22) hx hb dX3_countRows_51 (by decide) ?_
                      exact ih22 (dy + 1) (n1 + 1) (by omega) (by rw [fb_ct_succ, c38]; simp; omega) (by omega) H locs hI ls (lv_sub hl [2, 1, 3, 4, 0] rfl)
              exact J22 (32 + 1) 0 n1 (by omega) (by rw [fb_ct]; omega) (by omega) H locs hI ls (lv_sub hl [1, 2, 3, 4, 0] rfl)
        exact J11 (t + 1 + 1) 0 n1 (by omega) (by rw [fb_sm]; omega) (by omega) H locs hI ls (lv_sub hl [1, 2, 3, 0] rfl)
  exact J4 (4 + 1) 0 0 (by omega) rfl (by omega) H locs hI ls (lv_sub hl [2, 1, 0] rfl)
set_option maxHeartbeats 4000000 in
set_option maxRecDepth 100000 in
theorem c_X3_heldIn {l : Launch} {D : va_G} {cI cZ cJ : ClassId} {z : Nat} {b : Nat → Nat} {X : va_W} {t : Nat} {th : Nat → Bool} {vs : Nat → Int32} {kt : Nat → Bool} {kv : Nat → Int32} {wt : Int32} {wa : Nat → Int32} {fl tr ch : Int32} {S : Sta} (hM : mAbs S th vs t) (ht : t < 40) {ky fr to : Nat} (h3 : ky < 4) (h4 : fr < to) (h5 : to ≤ 32) : roM l yX3_heldIn cX3_heldIn 6 (some .int) 1 22 [.ref (b 0), .int (nI ky), .int (nI fr), .int (nI to)] (pw D cI cZ cJ z (mw b cI cZ (nI t) th vs kt kv wt wa fl tr ch X)) (nI (held S (t * 4 + ky) fr (to - fr))) := by
  refine bd_ro (by decide) (Nat.le_of_ble_eq_true rfl) ?_
  intro p e s m args below meth c Q hF hpw hret ls hl
  obtain ⟨hx, hb, hml, hown, hts, hr, hlocks⟩ := id hF
  have hK := hpw.2.2.2
  have hI : wi D z noA (mw b cI cZ (nI t) th vs kt kv wt wa fl tr ch X) s s.heap [] := hpw.wi
  have hl : lv_has ls 6 [(0, .ref (b 0)), (1, .int (nI ky)), (2, .int (nI fr)), (3, .int (nI to))] := hl
  suffices hgo : ∀ (H : Heap) (locs : List Loc), wi D z noA (mw b cI cZ (nI t) th vs kt kv wt wa fl tr ch X) s H locs → ∀ ls : Array Slot, lv_has ls 6 [(0, .ref (b 0)), (1, .int (nI ky)), (2, .int (nI fr)), (3, .int (nI to))] → W p l e (rmv 1 22) s m args below meth c H locs 0 0 Q (F0 m 0 ls []) from hgo _ _ hI ls hl
  intro H locs hI ls hl
  refine lv_iconst (v := nI 0) hx hb dX3_heldIn_0 (by decide) ?_
  refine lv_istore (lv' := [(4, .int (nI 0)), (0, .ref (b 0)), (1, .int (nI ky)), (2, .int (nI fr)), (3, .int (nI to))]) hx hb dX3_heldIn_1 hl (by decide) rfl (fun ls hl => ?_)
  refine lv_iload_n hx hb dX3_heldIn_3 rfl (lv_at hl 3 rfl) ?_
  refine lv_istore (lv' := [(5, .int (nI fr)), (4, .int (nI 0)), (0, .ref (b 0)), (1, .int (nI ky)), (2, .int (nI fr)), (3, .int (nI to))]) hx hb dX3_heldIn_4 hl (by decide) rfl (fun ls hl => ?_)
  have J6 : ∀ (n6_ : Nat) (x : Nat) (n1 : Nat) (hx1 : x ≤ to) (hx0 : fr ≤ x) (hn : n1 = held S (t * 4 + ky) fr (x - fr)) (hm6 : to < x + n6_) (H : Heap) (locs : List Loc), wi D z noA (mw b cI cZ (nI t) th vs kt kv wt wa fl tr ch X) s H locs → ∀ ls : Array Slot, lv_has ls 6 [(0, .ref (b 0)), (1, .int (nI ky)), (2, .int (nI fr)), (3, .int (nI to)), (4, .int (nI n1)), (5, .int (nI x))] → W p l e (rmv 1 22) s m args below meth c H locs 0 0 Q (F0 m 6 ls []) := by
    intro n6_
    induction n6_ with
    | zero => intro x n1 hx1 hx0 hn hm6; exact absurd hm6 (by omega)
    | succ n6_ ih6 =>
      intro x n1 hx1 hx0 hn hm6 H locs hI ls hl
      refine lv_iload hx hb dX3_heldIn_6 (lv_at hl 5 rfl) ?_
      refine lv_iload_n hx hb dX3_heldIn_8 rfl (lv_at hl 3 rfl) ?_
      refine nb_ge (tgt := 46) hx hb dX3_heldIn_9 (by decide) (by omega) (by omega) (fun c9 => ?_) (fun c9 => ?_)
      · refine lv_iload hx hb dX3_heldIn_46 (lv_at hl 4 rfl) ?_
        exact hret hI.2.2.2 dX3_heldIn_48 ((by rw [hn, show x = to by omega]))
      · refine lv_iload hx hb dX3_heldIn_12 (lv_at hl 4 rfl) ?_
        refine lv_aload_n hx hb dX3_heldIn_14 rfl (lv_at hl 0 rfl) ?_
        refine va_get (D := D) (ci := 3) (v := .ref (b 1)) (C := RX3) (T := TX3) (N := 10) hx hb hts inX3 hown hK.1 hI.2.1 0 rfl rfl 1 (by decide) (hts _ k423) (fun _ h9 => h9) rfl dX3_heldIn_15 ?_
        refine lv_aload_n hx hb dX3_heldIn_18 rfl (lv_at hl 0 rfl) ?_
        refine va_get (D := D) (ci := 3) (v := .int (nI t)) (C := RX3) (T := TX3) (N := 10) hx hb hts inX3 hown hK.1 hI.2.1 0 rfl rfl 0 (by decide) (hts _ k422) (fun _ h9 => h9) rfl dX3_heldIn_19 ?_
        refine lv_iload_n hx hb dX3_heldIn_22 rfl (lv_at hl 1 rfl) ?_
        refine lv_iload hx hb dX3_heldIn_23 (lv_at hl 5 rfl) ?_
        refine k_ro (run_s (As := [.int (nI t), .int (nI ky), .int (nI x)]) (rest := [.ref (b 1), .int (nI n1)]) hF (c_X3_place ) tt_blind (fun _ _ _ => trivial) cf_X3_place k492 ⟨Nat.le_of_ble_eq_true rfl, Nat.le_of_ble_eq_true rfl⟩ ⟨rfl, rfl⟩ ⟨Nat.le_of_ble_eq_true rfl, Nat.le_of_ble_eq_true rfl⟩ rfl hl.1 rfl (Nat.le_of_ble_eq_true rfl) dX3_heldIn_25) hI (fun H locs hI => ?_)
        refine zb_ld (f := th) (k := 128 * t + 32 * ky + x) hx hb hK hI 1 rfl dX3_heldIn_28 (by omega) (by decide) ?_
        refine bz_eq (tgt := 36) hx hb dX3_heldIn_29 (by decide) (fun c29 => ?_) (fun c29 => ?_)
        · refine lv_iconst (v := nI 0) hx hb dX3_heldIn_36 (by decide) ?_
          refine lv_iadd hx hb dX3_heldIn_37 ?_
          refine tp (nI_add _ _) ?_
          refine lv_istore (lv' := [(4, .int (nI (n1 + 0))), (0, .ref (b 0)), (1, .int (nI ky)), (2, .int (nI fr)), (3, .int (nI to)), (5, .int (nI x))]) hx hb dX3_heldIn_38 hl (by decide) rfl (fun ls hl => ?_)
          refine lv_iinc (v := nI (x + 1)) (lv' := [(5, .int (nI (x + 1))), (4, .int (nI (n1 + 0))), (0, .ref (b 0)), (1, .int (nI ky)), (2, .int (nI fr)), (3, .int (nI to))]) hx hb dX3_heldIn_40 hl (k := 5) rfl (inc_n _ 1) (by decide) rfl (fun ls hl => ?_)
          refine lv_goto (tgt := 6) hx hb dX3_heldIn_43 (by decide) ?_
          exact ih6 (x + 1) (n1 + 0) (by omega) (by omega) (by rw [show x + 1 - fr = x - fr + 1 by omega, held, fb_ct_succ, show fr + (x - fr) = x by omega, has_m hM (Nat.le_refl t) h3 (by omega), c29, ← held, ← hn]; rfl) (by omega) H locs hI ls (lv_sub hl [2, 3, 4, 5, 1, 0] rfl)
        · refine lv_iconst (v := nI 1) hx hb dX3_heldIn_32 (by decide) ?_
          refine lv_goto (tgt := 37) hx hb dX3_heldIn_33 (by decide) ?_
          refine lv_iadd hx hb dX3_heldIn_37 ?_
          refine tp (nI_add _ _) ?_
          refine lv_istore (lv' := [(4, .int (nI (n1 + 1))), (0, .ref (b 0)), (1, .int (nI ky)), (2, .int (nI fr)), (3, .int (nI to)), (5, .int (nI x))]) hx hb dX3_heldIn_38 hl (by decide) rfl (fun ls hl => ?_)
          refine lv_iinc (v := nI (x + 1)) (lv' := [(5, .int (nI (x + 1))), (4, .int (nI (n1 + 1))), (0, .ref (b 0)), (1, .int (nI ky)), (2, .int (nI fr)), (3, .int (nI to))]) hx hb dX3_heldIn_40 hl (k := 5) rfl (inc_n _ 1) (by decide) rfl (fun ls hl => ?_)
          refine lv_goto (tgt := 6) hx hb dX3_heldIn_43 (by decide) ?_
          exact ih6 (x + 1) (n1 + 1) (by omega) (by omega) (by rw [show x + 1 - fr = x - fr + 1 by omega, held, fb_ct_succ, show fr + (x - fr) = x by omega, has_m hM (Nat.le_refl t) h3 (by omega), c29, ← held, ← hn]; rfl) (by omega) H locs hI ls (lv_sub hl [2, 3, 4, 5, 1, 0] rfl)
  exact J6 (to + 1) fr 0 (by omega) (by omega) (by rw [Nat.sub_self]; rfl) (by omega) H locs hI ls (lv_sub hl [2, 3, 4, 5, 1, 0] rfl)
set_option maxHeartbeats 4000000 in
set_option maxRecDepth 100000 in
theorem c_X3_endTime {l : Launch} {D : va_G} {cI cZ cJ : ClassId} {z : Nat} {b : Nat → Nat} {X : va_W} {t : Nat} {th : Nat → Bool} {vs : Nat → Int32} {kt : Nat → Bool} {kv : Nat → Int32} {wt : Int32} {wa : Nat → Int32} {fl tr ch : Int32} {S : Sta} (hM : mAbs S th vs t) (ht : t < 40) {tm ky dy : Nat} (h1 : tm ≤ t) (h3 : ky < 4) (h2 : dy < 32) (hs : (S (tm * 4 + ky) dy).isSome = true) : roM l yX3_endTime cX3_endTime 7 (some .int) 4 97 [.ref (b 0), .int (nI tm), .int (nI ky), .int (nI dy)] (pw D cI cZ cJ z (mw b cI cZ (nI t) th vs kt kv wt wa fl tr ch X)) (endV S t tm ky dy) := by
  refine bd_ro (by decide) (Nat.le_of_ble_eq_true rfl) ?_
  intro p e s m args below meth c Q hF hpw hret ls hl
  obtain ⟨hx, hb, hml, hown, hts, hr, hlocks⟩ := id hF
  have hK := hpw.2.2.2
  have hI : wi D z noA (mw b cI cZ (nI t) th vs kt kv wt wa fl tr ch X) s s.heap [] := hpw.wi
  have hl : lv_has ls 7 [(0, .ref (b 0)), (1, .int (nI tm)), (2, .int (nI ky)), (3, .int (nI dy))] := hl
  suffices hgo : ∀ (H : Heap) (locs : List Loc), wi D z noA (mw b cI cZ (nI t) th vs kt kv wt wa fl tr ch X) s H locs → ∀ ls : Array Slot, lv_has ls 7 [(0, .ref (b 0)), (1, .int (nI tm)), (2, .int (nI ky)), (3, .int (nI dy))] → W p l e (rmv 4 97) s m args below meth c H locs 0 0 Q (F0 m 0 ls []) from hgo _ _ hI ls hl
  intro H locs hI ls hl
  refine lv_aload_n hx hb dX3_endTime_0 rfl (lv_at hl 0 rfl) ?_
  refine lv_iload_n hx hb dX3_endTime_1 rfl (lv_at hl 1 rfl) ?_
  refine lv_iload_n hx hb dX3_endTime_2 rfl (lv_at hl 2 rfl) ?_
  refine lv_iload_n hx hb dX3_endTime_3 rfl (lv_at hl 3 rfl) ?_
  refine k_ro (run_v (As := [.int (nI tm), .int (nI ky), .int (nI dy)]) (rest := []) hF hK hI (c_X3_endOf hM ht (by omega) (by omega) (by omega)) cf_X3_endOf k515 0 3 rfl rfl ⟨Nat.le_of_ble_eq_true rfl, Nat.le_of_ble_eq_true rfl⟩ ⟨rfl, rfl⟩ ⟨Nat.le_of_ble_eq_true rfl, Nat.le_of_ble_eq_true rfl⟩ rfl hl.1 rfl (Nat.le_of_ble_eq_true rfl) dX3_endTime_4) hI (fun H locs hI => ?_)
  refine lv_istore (lv' := [(4, .int (nI (rend S (tm * 4 + ky) dy))), (0, .ref (b 0)), (1, .int (nI tm)), (2, .int (nI ky)), (3, .int (nI dy))]) hx hb dX3_endTime_7 hl (by decide) rfl (fun ls hl => ?_)
  refine lv_aload_n hx hb dX3_endTime_9 rfl (lv_at hl 1 rfl) ?_
  refine va_get (D := D) (ci := 3) (v := .ref (b 2)) (C := RX3) (T := TX3) (N := 10) hx hb hts inX3 hown hK.1 hI.2.1 0 rfl rfl 2 (by decide) (hts _ k424) (fun _ h9 => h9) rfl dX3_endTime_10 ?_
  refine lv_iload_n hx hb dX3_endTime_13 rfl (lv_at hl 2 rfl) ?_
  refine lv_iload_n hx hb dX3_endTime_14 rfl (lv_at hl 3 rfl) ?_
  refine lv_iload_n hx hb dX3_endTime_15 rfl (lv_at hl 4 rfl) ?_
  refine k_ro (run_s (As := [.int (nI tm), .int (nI ky), .int (nI dy)]) (rest := [.ref (b 2)]) hF (c_X3_place ) tt_blind (fun _ _ _ => trivial) cf_X3_place k492 ⟨Nat.le_of_ble_eq_true rfl, Nat.le_of_ble_eq_true rfl⟩ ⟨rfl, rfl⟩ ⟨Nat.le_of_ble_eq_true rfl, Nat.le_of_ble_eq_true rfl⟩ rfl hl.1 rfl (Nat.le_of_ble_eq_true rfl) dX3_endTime_16) hI (fun H locs hI => ?_)
  refine ia_ld (f := vs) (k := 128 * tm + 32 * ky + dy) hx hb hK hI 2 rfl dX3_endTime_19 (by omega) (by decide) ?_
  refine lv_istore (lv' := [(5, .int (vs (128 * tm + 32 * ky + dy))), (4, .int (nI (rend S (tm * 4 + ky) dy))), (0, .ref (b 0)), (1, .int (nI tm)), (2, .int (nI ky)), (3, .int (nI dy))]) hx hb dX3_endTime_20 hl (by decide) rfl (fun ls hl => ?_)
  refine lv_iload_n hx hb dX3_endTime_22 rfl (lv_at hl 3 rfl) ?_
  refine lv_iconst (v := nI 1) hx hb dX3_endTime_23 (by decide) ?_
  refine lv_iadd hx hb dX3_endTime_24 ?_
  refine tp (nI_add _ _) ?_
  refine lv_istore (lv' := [(6, .int (nI (tm + 1))), (5, .int (vs (128 * tm + 32 * ky + dy))), (4, .int (nI (rend S (tm * 4 + ky) dy))), (0, .ref (b 0)), (1, .int (nI tm)), (2, .int (nI ky)), (3, .int (nI dy))]) hx hb dX3_endTime_25 hl (by decide) rfl (fun ls hl => ?_)
  have J27 : ∀ (n27_ : Nat) (x : Nat) (hx1 : x ≤ t + 1) (hx0 : tm < x) (hxe : endV S t tm ky dy = endF S (tm * 4 + ky) ky dy (t + 1 - x) x) (hm27 : t + 1 < x + n27_) (H : Heap) (locs : List Loc), wi D z noA (mw b cI cZ (nI t) th vs kt kv wt wa fl tr ch X) s H locs → ∀ ls : Array Slot, lv_has ls 7 [(0, .ref (b 0)), (1, .int (nI tm)), (2, .int (nI ky)), (3, .int (nI dy)), (4, .int (nI (rend S (tm * 4 + ky) dy))), (5, .int (vs (128 * tm + 32 * ky + dy))), (6, .int (nI x))] → W p l e (rmv 4 97) s m args below meth c H locs 0 0 Q (F0 m 27 ls []) := by
    intro n27_
    induction n27_ with
    | zero => intro x hx1 hx0 hxe hm27; exact absurd hm27 (by omega)
    | succ n27_ ih27 =>
      intro x hx1 hx0 hxe hm27 H locs hI ls hl
      refine lv_iload hx hb dX3_endTime_27 (lv_at hl 6 rfl) ?_
      refine lv_aload_n hx hb dX3_endTime_29 rfl (lv_at hl 0 rfl) ?_
      refine va_get (D := D) (ci := 3) (v := .int (nI t)) (C := RX3) (T := TX3) (N := 10) hx hb hts inX3 hown hK.1 hI.2.1 0 rfl rfl 0 (by decide) (hts _ k422) (fun _ h9 => h9) rfl dX3_endTime_30 ?_
      refine nb_gt (tgt := 57) hx hb dX3_endTime_33 (by decide) (by omega) (by omega) (fun c33 => ?_) (fun c33 => ?_)
      · refine lv_iload hx hb dX3_endTime_57 (lv_at hl 6 rfl) ?_
        refine lv_aload_n hx hb dX3_endTime_59 rfl (lv_at hl 0 rfl) ?_
        refine va_get (D := D) (ci := 3) (v := .int (nI t)) (C := RX3) (T := TX3) (N := 10) hx hb hts inX3 hown hK.1 hI.2.1 0 rfl rfl 0 (by decide) (hts _ k422) (fun _ h9 => h9) rfl dX3_endTime_60 ?_
        refine nb_le (tgt := 70) hx hb dX3_endTime_63 (by decide) (by omega) (by omega) (fun c63 => ?_) (fun c63 => ?_)
        · refine lv_iload hx hb dX3_endTime_70 (lv_at hl 6 rfl) ?_
          exact hret hI.2.2.2 dX3_endTime_72 ((by first | omega | (rw [hxe, show t + 1 - x = 0 by omega]; rfl) | (rw [hxe, end_no (by omega) ((isRn_shr (val_m hM h1 h3 h2 hs)).symm.trans c48)]) | exact absurd c33 (by omega)))
        · refine lv_iconst (v := -1) hx hb dX3_endTime_66 (by decide) ?_
          refine lv_goto (tgt := 72) hx hb dX3_endTime_67 (by decide) ?_
          exact hret hI.2.2.2 dX3_endTime_72 ((by first | omega | (rw [hxe, show t + 1 - x = 0 by omega]; rfl) | (rw [hxe, end_no (by omega) ((isRn_shr (val_m hM h1 h3 h2 hs)).symm.trans c48)]) | exact absurd c33 (by omega)))
      · refine lv_aload_n hx hb dX3_endTime_36 rfl (lv_at hl 0 rfl) ?_
        refine lv_iload hx hb dX3_endTime_37 (lv_at hl 6 rfl) ?_
        refine lv_iload_n hx hb dX3_endTime_39 rfl (lv_at hl 2 rfl) ?_
        refine lv_iload_n hx hb dX3_endTime_40 rfl (lv_at hl 3 rfl) ?_
        refine lv_iload hx hb dX3_endTime_41 (lv_at hl 4 rfl) ?_
        refine lv_iload hx hb dX3_endTime_43 (lv_at hl 5 rfl) ?_
        have g1 := rend_in (S := S) (sl := tm * 4 + ky) h2
        refine k_ro (run_v (As := [.int (nI x), .int (nI ky), .int (nI dy), .int (nI (rend S (tm * 4 + ky) dy)), .int (vs (128 * tm + 32 * ky + dy))]) (rest := []) hF hK hI (c_X3_isRun hM ht (by omega) (by omega) (by omega) (by omega)) cf_X3_isRun k519 0 3 rfl rfl ⟨Nat.le_of_ble_eq_true rfl, Nat.le_of_ble_eq_true rfl⟩ ⟨rfl, rfl⟩ ⟨Nat.le_of_ble_eq_true rfl, Nat.le_of_ble_eq_true rfl⟩ rfl hl.1 rfl (Nat.le_of_ble_eq_true rfl) dX3_endTime_45) hI (fun H locs hI => ?_)
        refine bz_eq (tgt := 57) hx hb dX3_endTime_48 (by decide) (fun c48 => ?_) (fun c48 => ?_)
        · refine lv_iload hx hb dX3_endTime_57 (lv_at hl 6 rfl) ?_
          refine lv_aload_n hx hb dX3_endTime_59 rfl (lv_at hl 0 rfl) ?_
          refine va_get (D := D) (ci := 3) (v := .int (nI t)) (C := RX3) (T := TX3) (N := 10) hx hb hts inX3 hown hK.1 hI.2.1 0 rfl rfl 0 (by decide) (hts _ k422) (fun _ h9 => h9) rfl dX3_endTime_60 ?_
          refine nb_le (tgt := 70) hx hb dX3_endTime_63 (by decide) (by omega) (by omega) (fun c63 => ?_) (fun c63 => ?_)
          · refine lv_iload hx hb dX3_endTime_70 (lv_at hl 6 rfl) ?_
            exact hret hI.2.2.2 dX3_endTime_72 ((by first | omega | (rw [hxe, show t + 1 - x = 0 by omega]; rfl) | (rw [hxe, end_no (by omega) ((isRn_shr (val_m hM h1 h3 h2 hs)).symm.trans c48)]) | exact absurd c33 (by omega)))
          · refine lv_iconst (v := -1) hx hb dX3_endTime_66 (by decide) ?_
            refine lv_goto (tgt := 72) hx hb dX3_endTime_67 (by decide) ?_
            exact hret hI.2.2.2 dX3_endTime_72 ((by first | omega | (rw [hxe, show t + 1 - x = 0 by omega]; rfl) | (rw [hxe, end_no (by omega) ((isRn_shr (val_m hM h1 h3 h2 hs)).symm.trans c48)]) | exact absurd c33 (by omega)))
        · refine lv_iinc (v := nI (x + 1)) (lv' := [(6, .int (nI (x + 1))), (0, .ref (b 0)), (1, .int (nI tm)), (2, .int (nI ky)), (3, .int (nI dy)), (4, .int (nI (rend S (tm * 4 + ky) dy))), (5, .int (vs (128 * tm + 32 * ky + dy)))]) hx hb dX3_endTime_51 hl (k := 6) rfl (inc_n _ 1) (by decide) rfl (fun ls hl => ?_)
          refine lv_goto (tgt := 27) hx hb dX3_endTime_54 (by decide) ?_
          exact ih27 (x + 1) (by omega) (by omega) (hxe.trans (end_go (by omega) ((isRn_shr (val_m hM h1 h3 h2 hs)).symm.trans c48))) (by omega) H locs hI ls (lv_sub hl [1, 2, 3, 4, 5, 6, 0] rfl)
  exact J27 (t + 1 + 1) (tm + 1) (by omega) (by omega) (by rw [endV, show t - tm = t + 1 - (tm + 1) by omega]) (by omega) H locs hI ls (lv_sub hl [3, 4, 5, 6, 2, 1, 0] rfl)
set_option maxHeartbeats 4000000 in
set_option maxRecDepth 100000 in
theorem c_X3_early {l : Launch} {fa fb fc fd : Nat} (h1 : fa ≤ 32) (h2 : fb ≤ 32) (h3 : fc ≤ 32) (h4 : fd ≤ 32) (h5 : fa < fb)  : roM l yX3_early cX3_early 4 (some .int) 0 0 [.int (nI fa), .int (nI fb), .int (nI fc), .int (nI fd)] (fun _ => True) (fwdI fa fb fc fd) := by
  refine bd_ro (by decide) (Nat.le_of_ble_eq_true rfl) ?_
  intro p e s m args below meth c Q hF hpw hret ls hl
  obtain ⟨hx, hb, hml, hown, hts, hr, hlocks⟩ := id hF
  have hI : va_S noA s.heap s.heap [] := va_S.rf
  have hl : lv_has ls 4 [(0, .int (nI fa)), (1, .int (nI fb)), (2, .int (nI fc)), (3, .int (nI fd))] := hl
  suffices hgo : ∀ (H : Heap) (locs : List Loc), va_S noA s.heap H locs → ∀ ls : Array Slot, lv_has ls 4 [(0, .int (nI fa)), (1, .int (nI fb)), (2, .int (nI fc)), (3, .int (nI fd))] → W p l e (rmv 0 0) s m args below meth c H locs 0 0 Q (F0 m 0 ls []) from hgo _ _ hI ls hl
  intro H locs hI ls hl
  refine lv_iload_n hx hb dX3_early_0 rfl (lv_at hl 1 rfl) ?_
  refine lv_iload_n hx hb dX3_early_1 rfl (lv_at hl 2 rfl) ?_
  refine nb_ge (tgt := 7) hx hb dX3_early_2 (by decide) (by omega) (by omega) (fun c2 => ?_) (fun c2 => ?_)
  · refine lv_iload_n hx hb dX3_early_7 rfl (lv_at hl 1 rfl) ?_
    refine lv_iload_n hx hb dX3_early_8 rfl (lv_at hl 2 rfl) ?_
    refine nb_ne (tgt := 14) hx hb dX3_early_9 (by decide) (by omega) (by omega) (fun c9 => ?_) (fun c9 => ?_)
    · refine lv_iload_n hx hb dX3_early_14 rfl (lv_at hl 0 rfl) ?_
      refine lv_iload_n hx hb dX3_early_15 rfl (lv_at hl 2 rfl) ?_
      refine nb_ge (tgt := 26) hx hb dX3_early_16 (by decide) (by omega) (by omega) (fun c16 => ?_) (fun c16 => ?_)
      · refine lv_iload_n hx hb dX3_early_26 rfl (lv_at hl 0 rfl) ?_
        refine lv_iload_n hx hb dX3_early_27 rfl (lv_at hl 2 rfl) ?_
        refine nb_ne (tgt := 38) hx hb dX3_early_28 (by decide) (by omega) (by omega) (fun c28 => ?_) (fun c28 => ?_)
        · refine lv_iload_n hx hb dX3_early_38 rfl (lv_at hl 0 rfl) ?_
          refine lv_iload_n hx hb dX3_early_39 rfl (lv_at hl 2 rfl) ?_
          refine nb_le (tgt := 59) hx hb dX3_early_40 (by decide) (by omega) (by omega) (fun c40 => ?_) (fun c40 => ?_)
          · refine lv_iload_n hx hb dX3_early_59 rfl (lv_at hl 0 rfl) ?_
            refine lv_iload_n hx hb dX3_early_60 rfl (lv_at hl 2 rfl) ?_
            refine nb_le (tgt := 71) hx hb dX3_early_61 (by decide) (by omega) (by omega) (fun c61 => ?_) (fun c61 => ?_)
            · refine lv_iload_n hx hb dX3_early_71 rfl (lv_at hl 0 rfl) ?_
              refine lv_iload_n hx hb dX3_early_72 rfl (lv_at hl 2 rfl) ?_
              refine nb_ne (tgt := 86) hx hb dX3_early_73 (by decide) (by omega) (by omega) (fun c73 => ?_) (fun c73 => ?_)
              · refine lv_iconst (v := -1) hx hb dX3_early_86 (by decide) ?_
                exact hret hI dX3_early_87 ((by first | (exfalso; omega) | (unfold fwdI; repeat (first | rw [if_pos (by omega)] | rw [if_neg (by omega)]))))
              · refine lv_iload_n hx hb dX3_early_76 rfl (lv_at hl 1 rfl) ?_
                refine lv_iload_n hx hb dX3_early_77 rfl (lv_at hl 3 rfl) ?_
                refine nb_ne (tgt := 86) hx hb dX3_early_78 (by decide) (by omega) (by omega) (fun c78 => ?_) (fun c78 => ?_)
                · refine lv_iconst (v := -1) hx hb dX3_early_86 (by decide) ?_
                  exact hret hI dX3_early_87 ((by first | (exfalso; omega) | (unfold fwdI; repeat (first | rw [if_pos (by omega)] | rw [if_neg (by omega)]))))
                · refine lv_bipush (v := nI 6) hx hb dX3_early_81 (by decide) ?_
                  refine lv_goto (tgt := 87) hx hb dX3_early_83 (by decide) ?_
                  exact hret hI dX3_early_87 ((by first | (exfalso; omega) | (unfold fwdI; repeat (first | rw [if_pos (by omega)] | rw [if_neg (by omega)]))))
            · refine lv_iload_n hx hb dX3_early_64 rfl (lv_at hl 1 rfl) ?_
              refine lv_iload_n hx hb dX3_early_65 rfl (lv_at hl 3 rfl) ?_
              refine nb_ne (tgt := 71) hx hb dX3_early_66 (by decide) (by omega) (by omega) (fun c66 => ?_) (fun c66 => ?_)
              · refine lv_iload_n hx hb dX3_early_71 rfl (lv_at hl 0 rfl) ?_
                refine lv_iload_n hx hb dX3_early_72 rfl (lv_at hl 2 rfl) ?_
                refine nb_ne (tgt := 86) hx hb dX3_early_73 (by decide) (by omega) (by omega) (fun c73 => ?_) (fun c73 => ?_)
                · refine lv_iconst (v := -1) hx hb dX3_early_86 (by decide) ?_
                  exact hret hI dX3_early_87 ((by first | (exfalso; omega) | (unfold fwdI; repeat (first | rw [if_pos (by omega)] | rw [if_neg (by omega)]))))
                · refine lv_iload_n hx hb dX3_early_76 rfl (lv_at hl 1 rfl) ?_
                  refine lv_iload_n hx hb dX3_early_77 rfl (lv_at hl 3 rfl) ?_
                  refine nb_ne (tgt := 86) hx hb dX3_early_78 (by decide) (by omega) (by omega) (fun c78 => ?_) (fun c78 => ?_)
                  · refine lv_iconst (v := -1) hx hb dX3_early_86 (by decide) ?_
                    exact hret hI dX3_early_87 ((by first | (exfalso; omega) | (unfold fwdI; repeat (first | rw [if_pos (by omega)] | rw [if_neg (by omega)]))))
                  · refine lv_bipush (v := nI 6) hx hb dX3_early_81 (by decide) ?_
                    refine lv_goto (tgt := 87) hx hb dX3_early_83 (by decide) ?_
                    exact hret hI dX3_early_87 ((by first | (exfalso; omega) | (unfold fwdI; repeat (first | rw [if_pos (by omega)] | rw [if_neg (by omega)]))))
              · refine lv_iconst (v := nI 5) hx hb dX3_early_69 (by decide) ?_
                exact hret hI dX3_early_70 ((by first | (exfalso; omega) | (unfold fwdI; repeat (first | rw [if_pos (by omega)] | rw [if_neg (by omega)]))))
          · refine lv_iload_n hx hb dX3_early_43 rfl (lv_at hl 1 rfl) ?_
            refine lv_iload_n hx hb dX3_early_44 rfl (lv_at hl 3 rfl) ?_
            refine nb_ge (tgt := 59) hx hb dX3_early_45 (by decide) (by omega) (by omega) (fun c45 => ?_) (fun c45 => ?_)
            · refine lv_iload_n hx hb dX3_early_59 rfl (lv_at hl 0 rfl) ?_
              refine lv_iload_n hx hb dX3_early_60 rfl (lv_at hl 2 rfl) ?_
              refine nb_le (tgt := 71) hx hb dX3_early_61 (by decide) (by omega) (by omega) (fun c61 => ?_) (fun c61 => ?_)
              · refine lv_iload_n hx hb dX3_early_71 rfl (lv_at hl 0 rfl) ?_
                refine lv_iload_n hx hb dX3_early_72 rfl (lv_at hl 2 rfl) ?_
                refine nb_ne (tgt := 86) hx hb dX3_early_73 (by decide) (by omega) (by omega) (fun c73 => ?_) (fun c73 => ?_)
                · refine lv_iconst (v := -1) hx hb dX3_early_86 (by decide) ?_
                  exact hret hI dX3_early_87 ((by first | (exfalso; omega) | (unfold fwdI; repeat (first | rw [if_pos (by omega)] | rw [if_neg (by omega)]))))
                · refine lv_iload_n hx hb dX3_early_76 rfl (lv_at hl 1 rfl) ?_
                  refine lv_iload_n hx hb dX3_early_77 rfl (lv_at hl 3 rfl) ?_
                  refine nb_ne (tgt := 86) hx hb dX3_early_78 (by decide) (by omega) (by omega) (fun c78 => ?_) (fun c78 => ?_)
                  · refine lv_iconst (v := -1) hx hb dX3_early_86 (by decide) ?_
                    exact hret hI dX3_early_87 ((by first | (exfalso; omega) | (unfold fwdI; repeat (first | rw [if_pos (by omega)] | rw [if_neg (by omega)]))))
                  · refine lv_bipush (v := nI 6) hx hb dX3_early_81 (by decide) ?_
                    refine lv_goto (tgt := 87) hx hb dX3_early_83 (by decide) ?_
                    exact hret hI dX3_early_87 ((by first | (exfalso; omega) | (unfold fwdI; repeat (first | rw [if_pos (by omega)] | rw [if_neg (by omega)]))))
              · refine lv_iload_n hx hb dX3_early_64 rfl (lv_at hl 1 rfl) ?_
                refine lv_iload_n hx hb dX3_early_65 rfl (lv_at hl 3 rfl) ?_
                refine nb_ne (tgt := 71) hx hb dX3_early_66 (by decide) (by omega) (by omega) (fun c66 => ?_) (fun c66 => ?_)
                · refine lv_iload_n hx hb dX3_early_71 rfl (lv_at hl 0 rfl) ?_
                  refine lv_iload_n hx hb dX3_early_72 rfl (lv_at hl 2 rfl) ?_
                  refine nb_ne (tgt := 86) hx hb dX3_early_73 (by decide) (by omega) (by omega) (fun c73 => ?_) (fun c73 => ?_)
                  · refine lv_iconst (v := -1) hx hb dX3_early_86 (by decide) ?_
                    exact hret hI dX3_early_87 ((by first | (exfalso; omega) | (unfold fwdI; repeat (first | rw [if_pos (by omega)] | rw [if_neg (by omega)]))))
                  · refine lv_iload_n hx hb dX3_early_76 rfl (lv_at hl 1 rfl) ?_
                    refine lv_iload_n hx hb dX3_early_77 rfl (lv_at hl 3 rfl) ?_
                    refine nb_ne (tgt := 86) hx hb dX3_early_78 (by decide) (by omega) (by omega) (fun c78 => ?_) (fun c78 => ?_)
                    · refine lv_iconst (v := -1) hx hb dX3_early_86 (by decide) ?_
                      exact hret hI dX3_early_87 ((by first | (exfalso; omega) | (unfold fwdI; repeat (first | rw [if_pos (by omega)] | rw [if_neg (by omega)]))))
                    · refine lv_bipush (v := nI 6) hx hb dX3_early_81 (by decide) ?_
                      refine lv_goto (tgt := 87) hx hb dX3_early_83 (by decide) ?_
                      exact hret hI dX3_early_87 ((by first | (exfalso; omega) | (unfold fwdI; repeat (first | rw [if_pos (by omega)] | rw [if_neg (by omega)]))))
                · refine lv_iconst (v := nI 5) hx hb dX3_early_69 (by decide) ?_
                  exact hret hI dX3_early_70 ((by first | (exfalso; omega) | (unfold fwdI; repeat (first | rw [if_pos (by omega)] | rw [if_neg (by omega)]))))
            · refine lv_iload_n hx hb dX3_early_48 rfl (lv_at hl 0 rfl) ?_
              refine lv_iload_n hx hb dX3_early_49 rfl (lv_at hl 3 rfl) ?_
              refine nb_ge (tgt := 57) hx hb dX3_early_50 (by decide) (by omega) (by omega) (fun c50 => ?_) (fun c50 => ?_)
              · refine lv_iconst (v := -1) hx hb dX3_early_57 (by decide) ?_
                exact hret hI dX3_early_58 ((by first | (exfalso; omega) | (unfold fwdI; repeat (first | rw [if_pos (by omega)] | rw [if_neg (by omega)]))))
              · refine lv_iconst (v := nI 4) hx hb dX3_early_53 (by decide) ?_
                refine lv_goto (tgt := 58) hx hb dX3_early_54 (by decide) ?_
                exact hret hI dX3_early_58 ((by first | (exfalso; omega) | (unfold fwdI; repeat (first | rw [if_pos (by omega)] | rw [if_neg (by omega)]))))
        · refine lv_iload_n hx hb dX3_early_31 rfl (lv_at hl 1 rfl) ?_
          refine lv_iload_n hx hb dX3_early_32 rfl (lv_at hl 3 rfl) ?_
          refine nb_ge (tgt := 38) hx hb dX3_early_33 (by decide) (by omega) (by omega) (fun c33 => ?_) (fun c33 => ?_)
          · refine lv_iload_n hx hb dX3_early_38 rfl (lv_at hl 0 rfl) ?_
            refine lv_iload_n hx hb dX3_early_39 rfl (lv_at hl 2 rfl) ?_
            refine nb_le (tgt := 59) hx hb dX3_early_40 (by decide) (by omega) (by omega) (fun c40 => ?_) (fun c40 => ?_)
            · refine lv_iload_n hx hb dX3_early_59 rfl (lv_at hl 0 rfl) ?_
              refine lv_iload_n hx hb dX3_early_60 rfl (lv_at hl 2 rfl) ?_
              refine nb_le (tgt := 71) hx hb dX3_early_61 (by decide) (by omega) (by omega) (fun c61 => ?_) (fun c61 => ?_)
              · refine lv_iload_n hx hb dX3_early_71 rfl (lv_at hl 0 rfl) ?_
                refine lv_iload_n hx hb dX3_early_72 rfl (lv_at hl 2 rfl) ?_
                refine nb_ne (tgt := 86) hx hb dX3_early_73 (by decide) (by omega) (by omega) (fun c73 => ?_) (fun c73 => ?_)
                · refine lv_iconst (v := -1) hx hb dX3_early_86 (by decide) ?_
                  exact hret hI dX3_early_87 ((by first | (exfalso; omega) | (unfold fwdI; repeat (first | rw [if_pos (by omega)] | rw [if_neg (by omega)]))))
                · refine lv_iload_n hx hb dX3_early_76 rfl (lv_at hl 1 rfl) ?_
                  refine lv_iload_n hx hb dX3_early_77 rfl (lv_at hl 3 rfl) ?_
                  refine nb_ne (tgt := 86) hx hb dX3_early_78 (by decide) (by omega) (by omega) (fun c78 => ?_) (fun c78 => ?_)
                  · refine lv_iconst (v := -1) hx hb dX3_early_86 (by decide) ?_
                    exact hret hI dX3_early_87 ((by first | (exfalso; omega) | (unfold fwdI; repeat (first | rw [if_pos (by omega)] | rw [if_neg (by omega)]))))
                  · refine lv_bipush (v := nI 6) hx hb dX3_early_81 (by decide) ?_
                    refine lv_goto (tgt := 87) hx hb dX3_early_83 (by decide) ?_
                    exact hret hI dX3_early_87 ((by first | (exfalso; omega) | (unfold fwdI; repeat (first | rw [if_pos (by omega)] | rw [if_neg (by omega)]))))
              · refine lv_iload_n hx hb dX3_early_64 rfl (lv_at hl 1 rfl) ?_
                refine lv_iload_n hx hb dX3_early_65 rfl (lv_at hl 3 rfl) ?_
                refine nb_ne (tgt := 71) hx hb dX3_early_66 (by decide) (by omega) (by omega) (fun c66 => ?_) (fun c66 => ?_)
                · refine lv_iload_n hx hb dX3_early_71 rfl (lv_at hl 0 rfl) ?_
                  refine lv_iload_n hx hb dX3_early_72 rfl (lv_at hl 2 rfl) ?_
                  refine nb_ne (tgt := 86) hx hb dX3_early_73 (by decide) (by omega) (by omega) (fun c73 => ?_) (fun c73 => ?_)
                  · refine lv_iconst (v := -1) hx hb dX3_early_86 (by decide) ?_
                    exact hret hI dX3_early_87 ((by first | (exfalso; omega) | (unfold fwdI; repeat (first | rw [if_pos (by omega)] | rw [if_neg (by omega)]))))
                  · refine lv_iload_n hx hb dX3_early_76 rfl (lv_at hl 1 rfl) ?_
                    refine lv_iload_n hx hb dX3_early_77 rfl (lv_at hl 3 rfl) ?_
                    refine nb_ne (tgt := 86) hx hb dX3_early_78 (by decide) (by omega) (by omega) (fun c78 => ?_) (fun c78 => ?_)
                    · refine lv_iconst (v := -1) hx hb dX3_early_86 (by decide) ?_
                      exact hret hI dX3_early_87 ((by first | (exfalso; omega) | (unfold fwdI; repeat (first | rw [if_pos (by omega)] | rw [if_neg (by omega)]))))
                    · refine lv_bipush (v := nI 6) hx hb dX3_early_81 (by decide) ?_
                      refine lv_goto (tgt := 87) hx hb dX3_early_83 (by decide) ?_
                      exact hret hI dX3_early_87 ((by first | (exfalso; omega) | (unfold fwdI; repeat (first | rw [if_pos (by omega)] | rw [if_neg (by omega)]))))
                · refine lv_iconst (v := nI 5) hx hb dX3_early_69 (by decide) ?_
                  exact hret hI dX3_early_70 ((by first | (exfalso; omega) | (unfold fwdI; repeat (first | rw [if_pos (by omega)] | rw [if_neg (by omega)]))))
            · refine lv_iload_n hx hb dX3_early_43 rfl (lv_at hl 1 rfl) ?_
              refine lv_iload_n hx hb dX3_early_44 rfl (lv_at hl 3 rfl) ?_
              refine nb_ge (tgt := 59) hx hb dX3_early_45 (by decide) (by omega) (by omega) (fun c45 => ?_) (fun c45 => ?_)
              · refine lv_iload_n hx hb dX3_early_59 rfl (lv_at hl 0 rfl) ?_
                refine lv_iload_n hx hb dX3_early_60 rfl (lv_at hl 2 rfl) ?_
                refine nb_le (tgt := 71) hx hb dX3_early_61 (by decide) (by omega) (by omega) (fun c61 => ?_) (fun c61 => ?_)
                · refine lv_iload_n hx hb dX3_early_71 rfl (lv_at hl 0 rfl) ?_
                  refine lv_iload_n hx hb dX3_early_72 rfl (lv_at hl 2 rfl) ?_
                  refine nb_ne (tgt := 86) hx hb dX3_early_73 (by decide) (by omega) (by omega) (fun c73 => ?_) (fun c73 => ?_)
                  · refine lv_iconst (v := -1) hx hb dX3_early_86 (by decide) ?_
                    exact hret hI dX3_early_87 ((by first | (exfalso; omega) | (unfold fwdI; repeat (first | rw [if_pos (by omega)] | rw [if_neg (by omega)]))))
                  · refine lv_iload_n hx hb dX3_early_76 rfl (lv_at hl 1 rfl) ?_
                    refine lv_iload_n hx hb dX3_early_77 rfl (lv_at hl 3 rfl) ?_
                    refine nb_ne (tgt := 86) hx hb dX3_early_78 (by decide) (by omega) (by omega) (fun c78 => ?_) (fun c78 => ?_)
                    · refine lv_iconst (v := -1) hx hb dX3_early_86 (by decide) ?_
                      exact hret hI dX3_early_87 ((by first | (exfalso; omega) | (unfold fwdI; repeat (first | rw [if_pos (by omega)] | rw [if_neg (by omega)]))))
                    · refine lv_bipush (v := nI 6) hx hb dX3_early_81 (by decide) ?_
                      refine lv_goto (tgt := 87) hx hb dX3_early_83 (by decide) ?_
                      exact hret hI dX3_early_87 ((by first | (exfalso; omega) | (unfold fwdI; repeat (first | rw [if_pos (by omega)] | rw [if_neg (by omega)]))))
                · refine lv_iload_n hx hb dX3_early_64 rfl (lv_at hl 1 rfl) ?_
                  refine lv_iload_n hx hb dX3_early_65 rfl (lv_at hl 3 rfl) ?_
                  refine nb_ne (tgt := 71) hx hb dX3_early_66 (by decide) (by omega) (by omega) (fun c66 => ?_) (fun c66 => ?_)
                  · refine lv_iload_n hx hb dX3_early_71 rfl (lv_at hl 0 rfl) ?_
                    refine lv_iload_n hx hb dX3_early_72 rfl (lv_at hl 2 rfl) ?_
                    refine nb_ne (tgt := 86) hx hb dX3_early_73 (by decide) (by omega) (by omega) (fun c73 => ?_) (fun c73 => ?_)
                    · refine lv_iconst (v := -1) hx hb dX3_early_86 (by decide) ?_
                      exact hret hI dX3_early_87 ((by first | (exfalso; omega) | (unfold fwdI; repeat (first | rw [if_pos (by omega)] | rw [if_neg (by omega)]))))
                    · refine lv_iload_n hx hb dX3_early_76 rfl (lv_at hl 1 rfl) ?_
                      refine lv_iload_n hx hb dX3_early_77 rfl (lv_at hl 3 rfl) ?_
                      refine nb_ne (tgt := 86) hx hb dX3_early_78 (by decide) (by omega) (by omega) (fun c78 => ?_) (fun c78 => ?_)
                      · refine lv_iconst (v := -1) hx hb dX3_early_86 (by decide) ?_
                        exact hret hI dX3_early_87 ((by first | (exfalso; omega) | (unfold fwdI; repeat (first | rw [if_pos (by omega)] | rw [if_neg (by omega)]))))
                      · refine lv_bipush (v := nI 6) hx hb dX3_early_81 (by decide) ?_
                        refine lv_goto (tgt := 87) hx hb dX3_early_83 (by decide) ?_
                        exact hret hI dX3_early_87 ((by first | (exfalso; omega) | (unfold fwdI; repeat (first | rw [if_pos (by omega)] | rw [if_neg (by omega)]))))
                  · refine lv_iconst (v := nI 5) hx hb dX3_early_69 (by decide) ?_
                    exact hret hI dX3_early_70 ((by first | (exfalso; omega) | (unfold fwdI; repeat (first | rw [if_pos (by omega)] | rw [if_neg (by omega)]))))
              · refine lv_iload_n hx hb dX3_early_48 rfl (lv_at hl 0 rfl) ?_
                refine lv_iload_n hx hb dX3_early_49 rfl (lv_at hl 3 rfl) ?_
                refine nb_ge (tgt := 57) hx hb dX3_early_50 (by decide) (by omega) (by omega) (fun c50 => ?_) (fun c50 => ?_)
                · refine lv_iconst (v := -1) hx hb dX3_early_57 (by decide) ?_
                  exact hret hI dX3_early_58 ((by first | (exfalso; omega) | (unfold fwdI; repeat (first | rw [if_pos (by omega)] | rw [if_neg (by omega)]))))
                · refine lv_iconst (v := nI 4) hx hb dX3_early_53 (by decide) ?_
                  refine lv_goto (tgt := 58) hx hb dX3_early_54 (by decide) ?_
                  exact hret hI dX3_early_58 ((by first | (exfalso; omega) | (unfold fwdI; repeat (first | rw [if_pos (by omega)] | rw [if_neg (by omega)]))))
          · refine lv_iconst (v := nI 3) hx hb dX3_early_36 (by decide) ?_
            exact hret hI dX3_early_37 ((by first | (exfalso; omega) | (unfold fwdI; repeat (first | rw [if_pos (by omega)] | rw [if_neg (by omega)]))))
      · refine lv_iload_n hx hb dX3_early_19 rfl (lv_at hl 1 rfl) ?_
        refine lv_iload_n hx hb dX3_early_20 rfl (lv_at hl 3 rfl) ?_
        refine nb_ge (tgt := 26) hx hb dX3_early_21 (by decide) (by omega) (by omega) (fun c21 => ?_) (fun c21 => ?_)
        · refine lv_iload_n hx hb dX3_early_26 rfl (lv_at hl 0 rfl) ?_
          refine lv_iload_n hx hb dX3_early_27 rfl (lv_at hl 2 rfl) ?_
          refine nb_ne (tgt := 38) hx hb dX3_early_28 (by decide) (by omega) (by omega) (fun c28 => ?_) (fun c28 => ?_)
          · refine lv_iload_n hx hb dX3_early_38 rfl (lv_at hl 0 rfl) ?_
            refine lv_iload_n hx hb dX3_early_39 rfl (lv_at hl 2 rfl) ?_
            refine nb_le (tgt := 59) hx hb dX3_early_40 (by decide) (by omega) (by omega) (fun c40 => ?_) (fun c40 => ?_)
            · refine lv_iload_n hx hb dX3_early_59 rfl (lv_at hl 0 rfl) ?_
              refine lv_iload_n hx hb dX3_early_60 rfl (lv_at hl 2 rfl) ?_
              refine nb_le (tgt := 71) hx hb dX3_early_61 (by decide) (by omega) (by omega) (fun c61 => ?_) (fun c61 => ?_)
              · refine lv_iload_n hx hb dX3_early_71 rfl (lv_at hl 0 rfl) ?_
                refine lv_iload_n hx hb dX3_early_72 rfl (lv_at hl 2 rfl) ?_
                refine nb_ne (tgt := 86) hx hb dX3_early_73 (by decide) (by omega) (by omega) (fun c73 => ?_) (fun c73 => ?_)
                · refine lv_iconst (v := -1) hx hb dX3_early_86 (by decide) ?_
                  exact hret hI dX3_early_87 ((by first | (exfalso; omega) | (unfold fwdI; repeat (first | rw [if_pos (by omega)] | rw [if_neg (by omega)]))))
                · refine lv_iload_n hx hb dX3_early_76 rfl (lv_at hl 1 rfl) ?_
                  refine lv_iload_n hx hb dX3_early_77 rfl (lv_at hl 3 rfl) ?_
                  refine nb_ne (tgt := 86) hx hb dX3_early_78 (by decide) (by omega) (by omega) (fun c78 => ?_) (fun c78 => ?_)
                  · refine lv_iconst (v := -1) hx hb dX3_early_86 (by decide) ?_
                    exact hret hI dX3_early_87 ((by first | (exfalso; omega) | (unfold fwdI; repeat (first | rw [if_pos (by omega)] | rw [if_neg (by omega)]))))
                  · refine lv_bipush (v := nI 6) hx hb dX3_early_81 (by decide) ?_
                    refine lv_goto (tgt := 87) hx hb dX3_early_83 (by decide) ?_
                    exact hret hI dX3_early_87 ((by first | (exfalso; omega) | (unfold fwdI; repeat (first | rw [if_pos (by omega)] | rw [if_neg (by omega)]))))
              · refine lv_iload_n hx hb dX3_early_64 rfl (lv_at hl 1 rfl) ?_
                refine lv_iload_n hx hb dX3_early_65 rfl (lv_at hl 3 rfl) ?_
                refine nb_ne (tgt := 71) hx hb dX3_early_66 (by decide) (by omega) (by omega) (fun c66 => ?_) (fun c66 => ?_)
                · refine lv_iload_n hx hb dX3_early_71 rfl (lv_at hl 0 rfl) ?_
                  refine lv_iload_n hx hb dX3_early_72 rfl (lv_at hl 2 rfl) ?_
                  refine nb_ne (tgt := 86) hx hb dX3_early_73 (by decide) (by omega) (by omega) (fun c73 => ?_) (fun c73 => ?_)
                  · refine lv_iconst (v := -1) hx hb dX3_early_86 (by decide) ?_
                    exact hret hI dX3_early_87 ((by first | (exfalso; omega) | (unfold fwdI; repeat (first | rw [if_pos (by omega)] | rw [if_neg (by omega)]))))
                  · refine lv_iload_n hx hb dX3_early_76 rfl (lv_at hl 1 rfl) ?_
                    refine lv_iload_n hx hb dX3_early_77 rfl (lv_at hl 3 rfl) ?_
                    refine nb_ne (tgt := 86) hx hb dX3_early_78 (by decide) (by omega) (by omega) (fun c78 => ?_) (fun c78 => ?_)
                    · refine lv_iconst (v := -1) hx hb dX3_early_86 (by decide) ?_
                      exact hret hI dX3_early_87 ((by first | (exfalso; omega) | (unfold fwdI; repeat (first | rw [if_pos (by omega)] | rw [if_neg (by omega)]))))
                    · refine lv_bipush (v := nI 6) hx hb dX3_early_81 (by decide) ?_
                      refine lv_goto (tgt := 87) hx hb dX3_early_83 (by decide) ?_
                      exact hret hI dX3_early_87 ((by first | (exfalso; omega) | (unfold fwdI; repeat (first | rw [if_pos (by omega)] | rw [if_neg (by omega)]))))
                · refine lv_iconst (v := nI 5) hx hb dX3_early_69 (by decide) ?_
                  exact hret hI dX3_early_70 ((by first | (exfalso; omega) | (unfold fwdI; repeat (first | rw [if_pos (by omega)] | rw [if_neg (by omega)]))))
            · refine lv_iload_n hx hb dX3_early_43 rfl (lv_at hl 1 rfl) ?_
              refine lv_iload_n hx hb dX3_early_44 rfl (lv_at hl 3 rfl) ?_
              refine nb_ge (tgt := 59) hx hb dX3_early_45 (by decide) (by omega) (by omega) (fun c45 => ?_) (fun c45 => ?_)
              · refine lv_iload_n hx hb dX3_early_59 rfl (lv_at hl 0 rfl) ?_
                refine lv_iload_n hx hb dX3_early_60 rfl (lv_at hl 2 rfl) ?_
                refine nb_le (tgt := 71) hx hb dX3_early_61 (by decide) (by omega) (by omega) (fun c61 => ?_) (fun c61 => ?_)
                · refine lv_iload_n hx hb dX3_early_71 rfl (lv_at hl 0 rfl) ?_
                  refine lv_iload_n hx hb dX3_early_72 rfl (lv_at hl 2 rfl) ?_
                  refine nb_ne (tgt := 86) hx hb dX3_early_73 (by decide) (by omega) (by omega) (fun c73 => ?_) (fun c73 => ?_)
                  · refine lv_iconst (v := -1) hx hb dX3_early_86 (by decide) ?_
                    exact hret hI dX3_early_87 ((by first | (exfalso; omega) | (unfold fwdI; repeat (first | rw [if_pos (by omega)] | rw [if_neg (by omega)]))))
                  · refine lv_iload_n hx hb dX3_early_76 rfl (lv_at hl 1 rfl) ?_
                    refine lv_iload_n hx hb dX3_early_77 rfl (lv_at hl 3 rfl) ?_
                    refine nb_ne (tgt := 86) hx hb dX3_early_78 (by decide) (by omega) (by omega) (fun c78 => ?_) (fun c78 => ?_)
                    · refine lv_iconst (v := -1) hx hb dX3_early_86 (by decide) ?_
                      exact hret hI dX3_early_87 ((by first | (exfalso; omega) | (unfold fwdI; repeat (first | rw [if_pos (by omega)] | rw [if_neg (by omega)]))))
                    · refine lv_bipush (v := nI 6) hx hb dX3_early_81 (by decide) ?_
                      refine lv_goto (tgt := 87) hx hb dX3_early_83 (by decide) ?_
                      exact hret hI dX3_early_87 ((by first | (exfalso; omega) | (unfold fwdI; repeat (first | rw [if_pos (by omega)] | rw [if_neg (by omega)]))))
                · refine lv_iload_n hx hb dX3_early_64 rfl (lv_at hl 1 rfl) ?_
                  refine lv_iload_n hx hb dX3_early_65 rfl (lv_at hl 3 rfl) ?_
                  refine nb_ne (tgt := 71) hx hb dX3_early_66 (by decide) (by omega) (by omega) (fun c66 => ?_) (fun c66 => ?_)
                  · refine lv_iload_n hx hb dX3_early_71 rfl (lv_at hl 0 rfl) ?_
                    refine lv_iload_n hx hb dX3_early_72 rfl (lv_at hl 2 rfl) ?_
                    refine nb_ne (tgt := 86) hx hb dX3_early_73 (by decide) (by omega) (by omega) (fun c73 => ?_) (fun c73 => ?_)
                    · refine lv_iconst (v := -1) hx hb dX3_early_86 (by decide) ?_
                      exact hret hI dX3_early_87 ((by first | (exfalso; omega) | (unfold fwdI; repeat (first | rw [if_pos (by omega)] | rw [if_neg (by omega)]))))
                    · refine lv_iload_n hx hb dX3_early_76 rfl (lv_at hl 1 rfl) ?_
                      refine lv_iload_n hx hb dX3_early_77 rfl (lv_at hl 3 rfl) ?_
                      refine nb_ne (tgt := 86) hx hb dX3_early_78 (by decide) (by omega) (by omega) (fun c78 => ?_) (fun c78 => ?_)
                      · refine lv_iconst (v := -1) hx hb dX3_early_86 (by decide) ?_
                        exact hret hI dX3_early_87 ((by first | (exfalso; omega) | (unfold fwdI; repeat (first | rw [if_pos (by omega)] | rw [if_neg (by omega)]))))
                      · refine lv_bipush (v := nI 6) hx hb dX3_early_81 (by decide) ?_
                        refine lv_goto (tgt := 87) hx hb dX3_early_83 (by decide) ?_
                        exact hret hI dX3_early_87 ((by first | (exfalso; omega) | (unfold fwdI; repeat (first | rw [if_pos (by omega)] | rw [if_neg (by omega)]))))
                  · refine lv_iconst (v := nI 5) hx hb dX3_early_69 (by decide) ?_
                    exact hret hI dX3_early_70 ((by first | (exfalso; omega) | (unfold fwdI; repeat (first | rw [if_pos (by omega)] | rw [if_neg (by omega)]))))
              · refine lv_iload_n hx hb dX3_early_48 rfl (lv_at hl 0 rfl) ?_
                refine lv_iload_n hx hb dX3_early_49 rfl (lv_at hl 3 rfl) ?_
                refine nb_ge (tgt := 57) hx hb dX3_early_50 (by decide) (by omega) (by omega) (fun c50 => ?_) (fun c50 => ?_)
                · refine lv_iconst (v := -1) hx hb dX3_early_57 (by decide) ?_
                  exact hret hI dX3_early_58 ((by first | (exfalso; omega) | (unfold fwdI; repeat (first | rw [if_pos (by omega)] | rw [if_neg (by omega)]))))
                · refine lv_iconst (v := nI 4) hx hb dX3_early_53 (by decide) ?_
                  refine lv_goto (tgt := 58) hx hb dX3_early_54 (by decide) ?_
                  exact hret hI dX3_early_58 ((by first | (exfalso; omega) | (unfold fwdI; repeat (first | rw [if_pos (by omega)] | rw [if_neg (by omega)]))))
          · refine lv_iload_n hx hb dX3_early_31 rfl (lv_at hl 1 rfl) ?_
            refine lv_iload_n hx hb dX3_early_32 rfl (lv_at hl 3 rfl) ?_
            refine nb_ge (tgt := 38) hx hb dX3_early_33 (by decide) (by omega) (by omega) (fun c33 => ?_) (fun c33 => ?_)
            · refine lv_iload_n hx hb dX3_early_38 rfl (lv_at hl 0 rfl) ?_
              refine lv_iload_n hx hb dX3_early_39 rfl (lv_at hl 2 rfl) ?_
              refine nb_le (tgt := 59) hx hb dX3_early_40 (by decide) (by omega) (by omega) (fun c40 => ?_) (fun c40 => ?_)
              · refine lv_iload_n hx hb dX3_early_59 rfl (lv_at hl 0 rfl) ?_
                refine lv_iload_n hx hb dX3_early_60 rfl (lv_at hl 2 rfl) ?_
                refine nb_le (tgt := 71) hx hb dX3_early_61 (by decide) (by omega) (by omega) (fun c61 => ?_) (fun c61 => ?_)
                · refine lv_iload_n hx hb dX3_early_71 rfl (lv_at hl 0 rfl) ?_
                  refine lv_iload_n hx hb dX3_early_72 rfl (lv_at hl 2 rfl) ?_
                  refine nb_ne (tgt := 86) hx hb dX3_early_73 (by decide) (by omega) (by omega) (fun c73 => ?_) (fun c73 => ?_)
                  · refine lv_iconst (v := -1) hx hb dX3_early_86 (by decide) ?_
                    exact hret hI dX3_early_87 ((by first | (exfalso; omega) | (unfold fwdI; repeat (first | rw [if_pos (by omega)] | rw [if_neg (by omega)]))))
                  · refine lv_iload_n hx hb dX3_early_76 rfl (lv_at hl 1 rfl) ?_
                    refine lv_iload_n hx hb dX3_early_77 rfl (lv_at hl 3 rfl) ?_
                    refine nb_ne (tgt := 86) hx hb dX3_early_78 (by decide) (by omega) (by omega) (fun c78 => ?_) (fun c78 => ?_)
                    · refine lv_iconst (v := -1) hx hb dX3_early_86 (by decide) ?_
                      exact hret hI dX3_early_87 ((by first | (exfalso; omega) | (unfold fwdI; repeat (first | rw [if_pos (by omega)] | rw [if_neg (by omega)]))))
                    · refine lv_bipush (v := nI 6) hx hb dX3_early_81 (by decide) ?_
                      refine lv_goto (tgt := 87) hx hb dX3_early_83 (by decide) ?_
                      exact hret hI dX3_early_87 ((by first | (exfalso; omega) | (unfold fwdI; repeat (first | rw [if_pos (by omega)] | rw [if_neg (by omega)]))))
                · refine lv_iload_n hx hb dX3_early_64 rfl (lv_at hl 1 rfl) ?_
                  refine lv_iload_n hx hb dX3_early_65 rfl (lv_at hl 3 rfl) ?_
                  refine nb_ne (tgt := 71) hx hb dX3_early_66 (by decide) (by omega) (by omega) (fun c66 => ?_) (fun c66 => ?_)
                  · refine lv_iload_n hx hb dX3_early_71 rfl (lv_at hl 0 rfl) ?_
                    refine lv_iload_n hx hb dX3_early_72 rfl (lv_at hl 2 rfl) ?_
                    refine nb_ne (tgt := 86) hx hb dX3_early_73 (by decide) (by omega) (by omega) (fun c73 => ?_) (fun c73 => ?_)
                    · refine lv_iconst (v := -1) hx hb dX3_early_86 (by decide) ?_
                      exact hret hI dX3_early_87 ((by first | (exfalso; omega) | (unfold fwdI; repeat (first | rw [if_pos (by omega)] | rw [if_neg (by omega)]))))
                    · refine lv_iload_n hx hb dX3_early_76 rfl (lv_at hl 1 rfl) ?_
                      refine lv_iload_n hx hb dX3_early_77 rfl (lv_at hl 3 rfl) ?_
                      refine nb_ne (tgt := 86) hx hb dX3_early_78 (by decide) (by omega) (by omega) (fun c78 => ?_) (fun c78 => ?_)
                      · refine lv_iconst (v := -1) hx hb dX3_early_86 (by decide) ?_
                        exact hret hI dX3_early_87 ((by first | (exfalso; omega) | (unfold fwdI; repeat (first | rw [if_pos (by omega)] | rw [if_neg (by omega)]))))
                      · refine lv_bipush (v := nI 6) hx hb dX3_early_81 (by decide) ?_
                        refine lv_goto (tgt := 87) hx hb dX3_early_83 (by decide) ?_
                        exact hret hI dX3_early_87 ((by first | (exfalso; omega) | (unfold fwdI; repeat (first | rw [if_pos (by omega)] | rw [if_neg (by omega)]))))
                  · refine lv_iconst (v := nI 5) hx hb dX3_early_69 (by decide) ?_
                    exact hret hI dX3_early_70 ((by first | (exfalso; omega) | (unfold fwdI; repeat (first | rw [if_pos (by omega)] | rw [if_neg (by omega)]))))
              · refine lv_iload_n hx hb dX3_early_43 rfl (lv_at hl 1 rfl) ?_
                refine lv_iload_n hx hb dX3_early_44 rfl (lv_at hl 3 rfl) ?_
                refine nb_ge (tgt := 59) hx hb dX3_early_45 (by decide) (by omega) (by omega) (fun c45 => ?_) (fun c45 => ?_)
                · refine lv_iload_n hx hb dX3_early_59 rfl (lv_at hl 0 rfl) ?_
                  refine lv_iload_n hx hb dX3_early_60 rfl (lv_at hl 2 rfl) ?_
                  refine nb_le (tgt := 71) hx hb dX3_early_61 (by decide) (by omega) (by omega) (fun c61 => ?_) (fun c61 => ?_)
                  · refine lv_iload_n hx hb dX3_early_71 rfl (lv_at hl 0 rfl) ?_
                    refine lv_iload_n hx hb dX3_early_72 rfl (lv_at hl 2 rfl) ?_
                    refine nb_ne (tgt := 86) hx hb dX3_early_73 (by decide) (by omega) (by omega) (fun c73 => ?_) (fun c73 => ?_)
                    · refine lv_iconst (v := -1) hx hb dX3_early_86 (by decide) ?_
                      exact hret hI dX3_early_87 ((by first | (exfalso; omega) | (unfold fwdI; repeat (first | rw [if_pos (by omega)] | rw [if_neg (by omega)]))))
                    · refine lv_iload_n hx hb dX3_early_76 rfl (lv_at hl 1 rfl) ?_
                      refine lv_iload_n hx hb dX3_early_77 rfl (lv_at hl 3 rfl) ?_
                      refine nb_ne (tgt := 86) hx hb dX3_early_78 (by decide) (by omega) (by omega) (fun c78 => ?_) (fun c78 => ?_)
                      · refine lv_iconst (v := -1) hx hb dX3_early_86 (by decide) ?_
                        exact hret hI dX3_early_87 ((by first | (exfalso; omega) | (unfold fwdI; repeat (first | rw [if_pos (by omega)] | rw [if_neg (by omega)]))))
                      · refine lv_bipush (v := nI 6) hx hb dX3_early_81 (by decide) ?_
                        refine lv_goto (tgt := 87) hx hb dX3_early_83 (by decide) ?_
                        exact hret hI dX3_early_87 ((by first | (exfalso; omega) | (unfold fwdI; repeat (first | rw [if_pos (by omega)] | rw [if_neg (by omega)]))))
                  · refine lv_iload_n hx hb dX3_early_64 rfl (lv_at hl 1 rfl) ?_
                    refine lv_iload_n hx hb dX3_early_65 rfl (lv_at hl 3 rfl) ?_
                    refine nb_ne (tgt := 71) hx hb dX3_early_66 (by decide) (by omega) (by omega) (fun c66 => ?_) (fun c66 => ?_)
                    · refine lv_iload_n hx hb dX3_early_71 rfl (lv_at hl 0 rfl) ?_
                      refine lv_iload_n hx hb dX3_early_72 rfl (lv_at hl 2 rfl) ?_
                      refine nb_ne (tgt := 86) hx hb dX3_early_73 (by decide) (by omega) (by omega) (fun c73 => ?_) (fun c73 => ?_)
                      · refine lv_iconst (v := -1) hx hb dX3_early_86 (by decide) ?_
                        exact hret hI dX3_early_87 ((by first | (exfalso; omega) | (unfold fwdI; repeat (first | rw [if_pos (by omega)] | rw [if_neg (by omega)]))))
                      · refine lv_iload_n hx hb dX3_early_76 rfl (lv_at hl 1 rfl) ?_
                        refine lv_iload_n hx hb dX3_early_77 rfl (lv_at hl 3 rfl) ?_
                        refine nb_ne (tgt := 86) hx hb dX3_early_78 (by decide) (by omega) (by omega) (fun c78 => ?_) (fun c78 => ?_)
                        · refine lv_iconst (v := -1) hx hb dX3_early_86 (by decide) ?_
                          exact hret hI dX3_early_87 ((by first | (exfalso; omega) | (unfold fwdI; repeat (first | rw [if_pos (by omega)] | rw [if_neg (by omega)]))))
                        · refine lv_bipush (v := nI 6) hx hb dX3_early_81 (by decide) ?_
                          refine lv_goto (tgt := 87) hx hb dX3_early_83 (by decide) ?_
                          exact hret hI dX3_early_87 ((by first | (exfalso; omega) | (unfold fwdI; repeat (first | rw [if_pos (by omega)] | rw [if_neg (by omega)]))))
                    · refine lv_iconst (v := nI 5) hx hb dX3_early_69 (by decide) ?_
                      exact hret hI dX3_early_70 ((by first | (exfalso; omega) | (unfold fwdI; repeat (first | rw [if_pos (by omega)] | rw [if_neg (by omega)]))))
                · refine lv_iload_n hx hb dX3_early_48 rfl (lv_at hl 0 rfl) ?_
                  refine lv_iload_n hx hb dX3_early_49 rfl (lv_at hl 3 rfl) ?_
                  refine nb_ge (tgt := 57) hx hb dX3_early_50 (by decide) (by omega) (by omega) (fun c50 => ?_) (fun c50 => ?_)
                  · refine lv_iconst (v := -1) hx hb dX3_early_57 (by decide) ?_
                    exact hret hI dX3_early_58 ((by first | (exfalso; omega) | (unfold fwdI; repeat (first | rw [if_pos (by omega)] | rw [if_neg (by omega)]))))
                  · refine lv_iconst (v := nI 4) hx hb dX3_early_53 (by decide) ?_
                    refine lv_goto (tgt := 58) hx hb dX3_early_54 (by decide) ?_
                    exact hret hI dX3_early_58 ((by first | (exfalso; omega) | (unfold fwdI; repeat (first | rw [if_pos (by omega)] | rw [if_neg (by omega)]))))
            · refine lv_iconst (v := nI 3) hx hb dX3_early_36 (by decide) ?_
              exact hret hI dX3_early_37 ((by first | (exfalso; omega) | (unfold fwdI; repeat (first | rw [if_pos (by omega)] | rw [if_neg (by omega)]))))
        · refine lv_iconst (v := nI 2) hx hb dX3_early_24 (by decide) ?_
          exact hret hI dX3_early_25 ((by first | (exfalso; omega) | (unfold fwdI; repeat (first | rw [if_pos (by omega)] | rw [if_neg (by omega)]))))
    · refine lv_iconst (v := nI 1) hx hb dX3_early_12 (by decide) ?_
      exact hret hI dX3_early_13 ((by first | (exfalso; omega) | (unfold fwdI; repeat (first | rw [if_pos (by omega)] | rw [if_neg (by omega)]))))
  · refine lv_iconst (v := nI 0) hx hb dX3_early_5 (by decide) ?_
    exact hret hI dX3_early_6 ((by first | (exfalso; omega) | (unfold fwdI; repeat (first | rw [if_pos (by omega)] | rw [if_neg (by omega)]))))
set_option maxHeartbeats 4000000 in
set_option maxRecDepth 100000 in
theorem c_X3_lies {l : Launch} {fa fb fc fd : Nat} (h1 : fa ≤ 32) (h2 : fb ≤ 32) (h3 : fc ≤ 32) (h4 : fd ≤ 32) (h5 : fa < fb) (h6 : fc < fd) : roM l yX3_lies cX3_lies 5 (some .int) 1 23 [.int (nI fa), .int (nI fb), .int (nI fc), .int (nI fd)] (fun _ => True) (nI (rel fa fb fc fd)) := by
  refine bd_ro (by decide) (Nat.le_of_ble_eq_true rfl) ?_
  intro p e s m args below meth c Q hF hpw hret ls hl
  obtain ⟨hx, hb, hml, hown, hts, hr, hlocks⟩ := id hF
  have hI : va_S noA s.heap s.heap [] := va_S.rf
  have hl : lv_has ls 5 [(0, .int (nI fa)), (1, .int (nI fb)), (2, .int (nI fc)), (3, .int (nI fd))] := hl
  suffices hgo : ∀ (H : Heap) (locs : List Loc), va_S noA s.heap H locs → ∀ ls : Array Slot, lv_has ls 5 [(0, .int (nI fa)), (1, .int (nI fb)), (2, .int (nI fc)), (3, .int (nI fd))] → W p l e (rmv 1 23) s m args below meth c H locs 0 0 Q (F0 m 0 ls []) from hgo _ _ hI ls hl
  intro H locs hI ls hl
  refine lv_iload_n hx hb dX3_lies_0 rfl (lv_at hl 0 rfl) ?_
  refine lv_iload_n hx hb dX3_lies_1 rfl (lv_at hl 1 rfl) ?_
  refine lv_iload_n hx hb dX3_lies_2 rfl (lv_at hl 2 rfl) ?_
  refine lv_iload_n hx hb dX3_lies_3 rfl (lv_at hl 3 rfl) ?_
  refine k_roS (run_s (As := [.int (nI fa), .int (nI fb), .int (nI fc), .int (nI fd)]) (rest := []) hF (c_X3_early (by omega) (by omega) (by omega) (by omega) (by omega)) tt_blind (fun _ _ _ => trivial) cf_X3_early k589 ⟨Nat.le_of_ble_eq_true rfl, Nat.le_of_ble_eq_true rfl⟩ ⟨rfl, rfl⟩ ⟨Nat.le_of_ble_eq_true rfl, Nat.le_of_ble_eq_true rfl⟩ rfl hl.1 rfl (Nat.le_of_ble_eq_true rfl) dX3_lies_4) hI (fun H locs hI => ?_)
  refine lv_istore (lv' := [(4, .int (fwdI fa fb fc fd)), (0, .int (nI fa)), (1, .int (nI fb)), (2, .int (nI fc)), (3, .int (nI fd))]) hx hb dX3_lies_7 hl (by decide) rfl (fun ls hl => ?_)
  refine lv_iload hx hb dX3_lies_9 (lv_at hl 0 rfl) ?_
  refine lv_if_lt (tgt := 19) hx hb dX3_lies_11 (by decide) (fun c11 => ?_) (fun c11 => ?_)
  · refine lv_bipush (v := nI 12) hx hb dX3_lies_19 (by decide) ?_
    refine lv_iload_n hx hb dX3_lies_21 rfl (lv_at hl 3 rfl) ?_
    refine lv_iload_n hx hb dX3_lies_22 rfl (lv_at hl 4 rfl) ?_
    refine lv_iload_n hx hb dX3_lies_23 rfl (lv_at hl 1 rfl) ?_
    refine lv_iload_n hx hb dX3_lies_24 rfl (lv_at hl 2 rfl) ?_
    refine k_roS (run_s (As := [.int (nI fc), .int (nI fd), .int (nI fa), .int (nI fb)]) (rest := [.int (nI 12)]) hF (c_X3_early (by omega) (by omega) (by omega) (by omega) (by omega)) tt_blind (fun _ _ _ => trivial) cf_X3_early k589 ⟨Nat.le_of_ble_eq_true rfl, Nat.le_of_ble_eq_true rfl⟩ ⟨rfl, rfl⟩ ⟨Nat.le_of_ble_eq_true rfl, Nat.le_of_ble_eq_true rfl⟩ rfl hl.1 rfl (Nat.le_of_ble_eq_true rfl) dX3_lies_25) hI (fun H locs hI => ?_)
    refine lv_isub hx hb dX3_lies_28 ?_
    exact hret hI dX3_lies_29 ((by first | exact rel_f (fwd_nlt c11) | exact rel_b h5 h6 (fwd_lt c11)))
  · refine lv_iload hx hb dX3_lies_14 (lv_at hl 0 rfl) ?_
    refine lv_goto (tgt := 29) hx hb dX3_lies_16 (by decide) ?_
    exact hret hI dX3_lies_29 ((by first | exact rel_f (fwd_nlt c11) | exact rel_b h5 h6 (fwd_lt c11)))
end
