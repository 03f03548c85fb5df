/-! throw new E("text"), where E's constructor names its superclass's by any entry of its pool, in a launch without stack traces: by the library's steps of a constructor's chain (the printed row knows entry 7 alone) -/
section TH
variable {p : Program} {l : Launch} {e : Env} {R : Room} {s : State} {m : MethodId} {args : Array Value} {below : List Frame} {meth : Method} {c : Code}
set_option maxHeartbeats 4000000 in
theorem tx_made {T0 : State} {locs : List Loc} {cells slots : Nat} (X : Stand p l e R s m args below meth c T0 locs cells slots) (hexec : p.tables.exec = Jvm.exec) (htr : e.platform.stackTraces = false) {own cls : String} {names : List String} {ic ix : Nat} {rx : ByteArray}
    (x0 : decode rx 0 = .ok (.aload_n 0, 1)) (x1 : decode rx 1 = .ok (.aload_n 1, 1)) (x2 : decode rx 2 = .ok (.invokespecial ix, 3)) (x5 : decode rx 5 = .ok (.return_, 1))
    (hown : s.vm.findClass own = some m.cls) (hcls : Bundle.fit cls = true) (hnames : ∀ n ∈ names, Bundle.fit n = true) (h : ∀ w ∈ Bundle.ownAtomsX own ic cls ix rx names, w.before args s = true)
    (hi1 : (Cond.instanceMethod (Bundle.initS cls)).before args s = true) (hi2 : (Cond.code (Bundle.initS cls) rx 2 none).before args s = true)
    (hlocs : ∀ x ∈ locs, ∀ cell, s.heap[x.base]? = some cell → cell.vm.isStatics = false)
    {a : Addr} {cX : ClassId} {kX : Class} (hfX : s.vm.findClass cls = some cX) (hkX : s.vm.classes[cX]? = some kX) (hcell : T0.heap[a]? = some (freshCell cX kX)) (hnew : s.heap.size ≤ a) {msg : Value} (hmsg : msg.isRef = true)
    {g : JFrame} (hg : g.method = m) (hsize : g.locals.size = c.maxLocals) (hlocked : g.locked = none) (hentered : g.entered = []) {rest : List Value} (hstack : g.stack = msg :: .ref a :: .ref a :: rest)
    (hd6 : decode c.code g.pc = .ok (.invokespecial ic, 3)) (hd9 : decode c.code (g.pc + 3) = .ok (.athrow, 1)) (hout : ∀ x ∈ c.exceptionTable.toList, covers x (g.pc + 3) = false)
    (hRf : names.length + 3 < R.frames) (hRl : 2 * g.monitorRoom + ((Value.ref a :: rest).map fun v => v.category).sum + (13 * (names.length + 1) + 42) ≤ R.locals) (hlocks : meth.locks = false) :
    ∃ U : State, Steps p.tables e below (T0.setTop g) U ∧ U.status = .running ∧ Ended U below (.threw a) ∧ s.WarmedH U.vm ∧ s.sameButNew ({ U with vm := s.vm } : State) locs cells slots ∧
      ∃ ce, U.heap[a]? = some ce ∧ ce.vm = .none ∧ s.vm.findClass cls = some ce.cls := by
  have q1 : e.platform.frameOwnsMonitors = true := by rw [X.admits.platform]
  have q2 : e.platform.finalization = false := by rw [X.admits.platform]
  have q3 : e.platform.magicAccessors = ({} : Platform).magicAccessors := by rw [X.admits.platform]
  have hh : ∀ w ∈ Bundle.ownAtomsX own ic cls ix rx names, w.holds args s none s [] = true := fun w hw => h w hw
  obtain ⟨T, Z0, LT, -, Y⟩ := ThrowableC.of_atoms (args := args) q1 q2 q3 (fun w hw => h w (by simp [Bundle.ownAtomsX, hw]))
  obtain ⟨Z, M, LZ, LM, hnZ⟩ := Init0T.ofS_atoms (args := args) q3 LT Y (fun w hw => h w (by simp [Bundle.ownAtomsX, hw]))
  obtain ⟨P, Ps, hlen, LP, LPs, hPm, hl1, hl2⟩ := Bundle.chainSX (args := args) q3 hnZ x0 x1 x2 x5 names cls hcls hnames (fun w hw => h w (by simp [Bundle.ownAtomsX, hw]))
  have hfnd : s.vm.findClass cls = some P.m.cls := findClass_of_methodNamed hPm
  cases Option.some.inj (hfX.symm.trans hfnd)
  obtain ⟨k1, kY, hk1, hk, hord, -, -, -⟩ := Cond.instantiable_spec (hh (.instantiable cls 6) (by simp [Bundle.ownAtomsX]))
  cases Option.some.inj (hk1.symm.trans hfnd)
  cases Option.some.inj (hkX.symm.trans hk)
  have hs0 : selectMethod e.platform s.vm P.m.cls T.fill0 = .method T.fill0 := by
    obtain ⟨z1, z2, z3, w1, w2, w3, w4, -⟩ := Cond.selects_spec (hh (.selects cls Bundle.tFill0 Bundle.tFill0) (by simp [Bundle.ownAtomsX]))
    cases Option.some.inj (w1.symm.trans hfnd)
    cases Option.some.inj (w2.symm.trans (State.methodFound?_of_named Y.fill0 (by decide)))
    cases Option.some.inj (w3.symm.trans Y.fill0)
    rw [Launch.admits_selectMethod X.admits]
    exact w4
  have hs1 : selectMethod e.platform s.vm P.m.cls T.fill = .method T.fill := by
    obtain ⟨z1, z2, z3, w1, w2, w3, w4, -⟩ := Cond.selects_spec (hh (.selects cls Bundle.tFill Bundle.tFill) (by simp [Bundle.ownAtomsX]))
    cases Option.some.inj (w1.symm.trans hfnd)
    cases Option.some.inj (w2.symm.trans (State.methodFound?_of_named Y.fill (by decide)))
    cases Option.some.inj (w3.symm.trans Y.fill)
    rw [Launch.admits_selectMethod X.admits]
    exact w4
  obtain ⟨cs, hcs, hst⟩ := Y.statics
  obtain ⟨u0, hu0⟩ := Cond.staticRefV Y.unassigned LT.unassignedStatic LT.statics hcs hst (hh (.isRef (.static Bundle.tN "UNASSIGNED_STACK" Bundle.steD)) (by simp [Bundle.ownAtomsX]))
  obtain ⟨sn, hsn⟩ := Cond.staticRefV Y.sentinel LT.sentinelStatic LT.statics hcs hst (hh (.isRef (.static Bundle.tN "SUPPRESSED_SENTINEL" Bundle.listD)) (by simp [Bundle.ownAtomsX]))
  obtain ⟨bi, bj, fB, hb1, hb2, hb3, hb4, -, hbn, hbt, hbf⟩ := Cond.ownField (t := .object "java/lang/Object") Y.found LT.cls (by decide +kernel) (hh (.fieldLink Bundle.tN 198 Bundle.tN "backtrace" "Ljava/lang/Object;") (by simp [Bundle.ownAtomsX])) (hh (.lays Bundle.tN Bundle.tN "backtrace" "Ljava/lang/Object;") (by simp [Bundle.ownAtomsX])) e.platform q3
  obtain ⟨ct, hct0, het, -, hkp⟩ := X.same.2.2.2.2.2 T.aS cs hcs
  have hct : T0.heap[T.aS]? = some ct := hct0
  have hno : ∀ i, (⟨T.aS, i⟩ : Loc) ∉ locs := fun i hm => by
    have := hlocs _ hm cs hcs
    rw [hst] at this
    cases this
  have hkn : ct.vm ≠ .unknown := by
    rw [het]
    intro hu
    rw [show cs.vm = .unknown from hu] at hst
    cases hst
  have hne : T.aS ≠ a := Nat.ne_of_lt (Nat.lt_of_lt_of_le (Array.getElem?_eq_some_iff.mp hcs).1 hnew)
  obtain ⟨iM, hfM⟩ := Y.msg
  obtain ⟨tC, dC, eC, nC⟩ := Cond.laysAt hfnd hk Y.cause (hh (.lays cls Bundle.tN "cause" "Ljava/lang/Throwable;") (by simp [Bundle.ownAtomsX]))
  obtain ⟨tS, dS, eS, nS⟩ := Cond.laysAt hfnd hk Y.stack (hh (.lays cls Bundle.tN "stackTrace" Bundle.steD) (by simp [Bundle.ownAtomsX]))
  obtain ⟨tP, dP, eP, nP⟩ := Cond.laysAt hfnd hk Y.supp (hh (.lays cls Bundle.tN "suppressedExceptions" Bundle.listD) (by simp [Bundle.ownAtomsX]))
  obtain ⟨tM, dM, eM, nM⟩ := Cond.laysAt hfnd hk hfM (hh (.lays cls Bundle.tN "detailMessage" "Ljava/lang/String;") (by simp [Bundle.ownAtomsX]))
  obtain ⟨tB, dB, eB, nB⟩ := Cond.laysAt hfnd hk hbf (hh (.lays cls Bundle.tN "backtrace" "Ljava/lang/Object;") (by simp [Bundle.ownAtomsX]))
  have y1 := Cond.laysApart eB eC nB nC (by rw [hbn, Y.causeName]; decide)
  have y2 := Cond.laysApart eB eS nB nS (by rw [hbn, Y.stackName]; decide)
  have y3 := Cond.laysApart eB eP nB nP (by rw [hbn, Y.suppName]; decide)
  have hskip : SkipFacts T e.platform s (fun u => u) u0 ((preparedCellV T.toThrowableT (freshCell P.m.cls kX) a u0 sn).withEntry T0.cur) :=
    ⟨{ ci198 := bi, i198 := bj, fBack := fB }, ⟨hb1, hb2, hb3, hb4⟩, by
      have := fresh_default (c := P.m.cls) tB
      rw [hbt] at this
      simpa [preparedCellV, Cell.setSlot, Cell.withEntry, Array.getElem?_setIfInBounds, y1, y2, y3, y1.symm, y2.symm, y3.symm, defaultValue] using this, fun _ _ => rfl⟩
  obtain ⟨tm, mC, cC, kC, v1, hn1, -, -, -, -, -, -, -, hW1, st1⟩ := Steps.initColdS (tb := p.tables) (e := e) (below := below) (s := s) (U := T0) X.here hexec X.warmed q3 hown (t := Bundle.initS cls) rfl rfl (Bundle.fit_spec hcls).2 (hh (.methodLink own ic (Bundle.initS cls)) (by simp [Bundle.ownAtomsX])) hi1 (bytes := rx) (maxL := 2) hi2 (f := g) hg (a := a) (msg := msg) (rest := .ref a :: rest) hstack hd6
  cases Option.some.inj (hn1.symm.trans hPm)
  have X1 := X.noted hW1
  obtain ⟨v2, X2, st2⟩ := X1.ctorMessageOffV hexec (g := { g with stack := .ref a :: rest }) hg hsize T LT Z LZ M LM (P :: Ps)
    (fun P' hP' => by
      rcases List.mem_cons.mp hP' with rfl | hP'
      · exact LP
      · exact LPs P' hP') ⟨hl1, hl2⟩ (u0 := u0) (sen := sn) (self := a) hmsg (cell := freshCell P.m.cls kX) (cellS := ct)
    hcell (fun _ => by simp) (by simp) rfl rfl hs0 hs1 hct hne hkn (by rw [hkp _ (hno _)]; exact hu0) (by rw [hkp _ (hno _)]; exact hsn)
    (Takes.of_laid hk hord tC (by rw [Y.causeType]; rfl)) (Takes.of_laid hk hord tS (by rw [Y.stackType]; exact fits_refV_array _ u0)) (Takes.of_laid hk hord tP (by rw [Y.suppType]; exact fits_refV_object _ sn))
    (Takes.of_laid hk hord tM (by rw [Y.msgType]; exact fits_refV_object _ ⟨msg, hmsg⟩)) Y.objLocals hskip htr [] hd6
    (by simp only [List.length_cons, hlen]; omega) (by simp only [List.length_cons, hlen]; exact hRl)
  obtain ⟨hwalk, hrun, hend, hWU, hsame⟩ := X2.athrowLeaves hexec (g := { g with stack := .ref a :: rest, pc := g.pc + 3 }) hg hlocked hentered hout (a := a) (rest := rest) rfl hd9
  have hlt : a < ((T0.setVm v1).setVm v2).heap.size := (Array.getElem?_eq_some_iff.mp hcell).1
  have hU := heapAt_setCell_self (s := (T0.setVm v1).setVm v2) (plainBareV T.toThrowableT (freshCell P.m.cls kX) a u0 sn msg) hlt
  refine ⟨_, st1 _ (fun acts => ?_), hrun, hend, hWU, hsame.weaken (fun y hy hy2 => ?_) (Nat.le_refl _) (Nat.le_refl _), _, hU, rfl, hfnd⟩
  · rw [doInvoke_state]
    exact st2 _ hwalk
  · rcases List.mem_append.mp hy with h1 | h1
    · exact h1
    · exfalso
      have hb : y.base = a := by
        simp only [List.mem_cons, List.not_mem_nil, or_false] at h1
        rcases h1 with rfl | rfl | rfl | rfl | rfl <;> rfl
      rw [hb] at hy2
      exact Nat.not_lt.mpr hnew hy2
end TH
