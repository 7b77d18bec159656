/-! A throw that leaves a method, and its catch by the caller; launches without stack traces. Over the library's BackT, ThrowableC, Bundle.chainSX, ctorMessageOffV, thenCaughtThrough. -/
section Tx
variable {p : Program} {l : Launch} {e : Env} {R : Room} {s : State} {m : MethodId} {args : Array Value} {below : List Frame} {meth : Method} {c : Code} {H : Heap} {locs : List Loc} {cells slots : Nat} {Q : State → Prop}
set_option maxHeartbeats 1000000 in
/-- the constructor of an exception with a text runs, then the throw leaves the method: nothing but the new cell has moved -/
theorem tx_ctor {V : State} (X : Stand p l e R s m args below meth c V locs cells slots) (hexec : p.tables.exec = Jvm.exec) (htr : e.platform.stackTraces = false) {own cls : String} {names : List String} {ic ix : Nat} {rx : ByteArray}
    (hrx : decode rx 0 = .ok (.aload_n 0, 1) ∧ decode rx 1 = .ok (.aload_n 1, 1) ∧ decode rx 2 = .ok (.invokespecial ix, 3) ∧ decode rx 5 = .ok (.return_, 1))
    (hown : s.vm.findClass own = some m.cls) (hfit : Bundle.fit cls = true ∧ ∀ n ∈ names, Bundle.fit n = true) (hw : ∀ w ∈ Bundle.ownAtomsX own ic cls ix rx names, w.before args s = true)
    (hst : ∀ x ∈ locs, ∀ cell, s.heap[x.base]? = some cell → cell.vm.isStatics = false)
    {q : Addr} {cX : ClassId} {kX : Class} (hX : s.vm.findClass cls = some cX) (hkX : s.vm.classes[cX]? = some kX) (hq : V.heap[q]? = some (freshCell cX kX)) (hnew : s.heap.size ≤ q) {msg : Value} (hmsg : msg.isRef = true)
    {pc : Nat} {ls : Array Slot} {rest : List Value} (hsize : ls.size = c.maxLocals) (d6 : decode c.code pc = .ok (.invokespecial ic, 3)) (d9 : decode c.code (pc + 3) = .ok (.athrow, 1)) (hout : ∀ x ∈ c.exceptionTable.toList, covers x (pc + 3) = false)
    (hRf : names.length + 3 < R.frames) (hRl : ((Value.ref q :: rest).map fun v => v.category).sum + (13 * (names.length + 1) + 42) ≤ R.locals) (hlocks : meth.locks = false) :
    ∃ (t : State) (ce : Cell), Steps p.tables e below (V.setTop (F0 m pc ls (msg :: .ref q :: .ref q :: rest))) t ∧ t.status = .running ∧ Ended t below (.threw q) ∧ s.WarmedH t.vm ∧ s.sameButNew ({ t with vm := s.vm } : State) locs cells slots ∧
      t.heap[q]? = some ce ∧ ce.vm = .none ∧ ce.cls = cX ∧ t.heap.size = V.heap.size ∧ ∀ z : Nat, z ≠ q → t.heap[z]? = V.heap[z]? := by
  have hpl : e.platform.magicAccessors = ({} : Platform).magicAccessors := by rw [X.admits.platform]
  have ok : ∀ w, w ∈ Bundle.ownAtomsX own ic cls ix rx names → w.holds args s none s [] = true := fun w h => hw w h
  obtain ⟨T, Z0, L, -, Y⟩ := ThrowableC.of_atoms (args := args) (by rw [X.admits.platform]) (by rw [X.admits.platform]) hpl (fun w h => hw w (by simp [Bundle.ownAtomsX, h]))
  obtain ⟨Z, M, LZ, LM, hnZ⟩ := Init0T.ofS_atoms (args := args) hpl L Y (fun w h => hw w (by simp [Bundle.ownAtomsX, h]))
  obtain ⟨P1, Ps, hlen, L1, hL, hm1, hs1, hs2⟩ := Bundle.chainSX (args := args) hpl hnZ hrx.1 hrx.2.1 hrx.2.2.1 hrx.2.2.2 names cls hfit.1 hfit.2 (fun w h => hw w (by simp [Bundle.ownAtomsX, h]))
  have hf1 : s.vm.findClass cls = some P1.m.cls := findClass_of_methodNamed hm1
  cases Option.some.inj (hX.symm.trans hf1)
  obtain ⟨c1, k1, hc1, hk1, hord, -, -, -⟩ := Cond.instantiable_spec (ok (.instantiable cls 6) (by simp [Bundle.ownAtomsX]))
  cases Option.some.inj (hc1.symm.trans hf1)
  cases Option.some.inj (hkX.symm.trans hk1)
  have sel : ∀ (y : MethodName) (k : MethodId), s.methodNamed? y = some k → (y.cls ≠ "java/lang/invoke/MethodHandle" ∧ y.cls ≠ "java/lang/invoke/VarHandle") → Cond.selects cls y y ∈ Bundle.ownAtomsX own ic cls ix rx names → selectMethod e.platform s.vm P1.m.cls k = .method k := by
    intro y k hy hn hin
    obtain ⟨c2, r2, m2, q1, q2, q3, q4, -⟩ := Cond.selects_spec (ok _ hin)
    cases Option.some.inj (q1.symm.trans hf1)
    cases Option.some.inj (q2.symm.trans (State.methodFound?_of_named hy hn))
    cases Option.some.inj (q3.symm.trans hy)
    rw [Launch.admits_selectMethod X.admits]; exact q4
  obtain ⟨cS, hcS, hsS⟩ := Y.statics
  obtain ⟨u0, hu0⟩ := Cond.staticRefV Y.unassigned L.unassignedStatic L.statics hcS hsS (ok (.isRef (.static Bundle.tN "UNASSIGNED_STACK" Bundle.steD)) (by simp [Bundle.ownAtomsX]))
  obtain ⟨sen, hsen⟩ := Cond.staticRefV Y.sentinel L.sentinelStatic L.statics hcS hsS (ok (.isRef (.static Bundle.tN "SUPPRESSED_SENTINEL" Bundle.listD)) (by simp [Bundle.ownAtomsX]))
  obtain ⟨cb, ib, fB, hb1, hb2, hb3, hb4, -, hnB, htB, hfB⟩ := Cond.ownField (t := .object "java/lang/Object") Y.found L.cls (by decide +kernel) (ok (.fieldLink Bundle.tN 198 Bundle.tN "backtrace" "Ljava/lang/Object;") (by simp [Bundle.ownAtomsX])) (ok (.lays Bundle.tN Bundle.tN "backtrace" "Ljava/lang/Object;") (by simp [Bundle.ownAtomsX])) e.platform hpl
  obtain ⟨cV, hcV, heV, -, hkV⟩ := X.same.2.2.2.2.2 T.aS cS hcS
  have hnin : ∀ i, (⟨T.aS, i⟩ : Loc) ∉ locs := fun i h => by
    have h9 := hst _ h cS hcS
    rw [hsS] at h9; cases h9
  have hkn : cV.vm ≠ .unknown := fun h => by
    rw [heV] at h
    rw [show cS.vm = .unknown from h] at hsS
    cases hsS
  have hne : T.aS ≠ q := Nat.ne_of_lt (Nat.lt_of_lt_of_le (Array.getElem?_eq_some_iff.mp hcS).1 hnew)
  obtain ⟨iM, hfM⟩ := Y.msg
  obtain ⟨tC, dC, hdC, hnC⟩ := Cond.laysAt hf1 hk1 Y.cause (ok (.lays cls Bundle.tN "cause" "Ljava/lang/Throwable;") (by simp [Bundle.ownAtomsX]))
  obtain ⟨tS, dS, hdS, hnS⟩ := Cond.laysAt hf1 hk1 Y.stack (ok (.lays cls Bundle.tN "stackTrace" Bundle.steD) (by simp [Bundle.ownAtomsX]))
  obtain ⟨tP, dP, hdP, hnP⟩ := Cond.laysAt hf1 hk1 Y.supp (ok (.lays cls Bundle.tN "suppressedExceptions" Bundle.listD) (by simp [Bundle.ownAtomsX]))
  obtain ⟨tM, dM, hdM, hnM⟩ := Cond.laysAt hf1 hk1 hfM (ok (.lays cls Bundle.tN "detailMessage" "Ljava/lang/String;") (by simp [Bundle.ownAtomsX]))
  obtain ⟨tB, dB, hdB, hnB2⟩ := Cond.laysAt hf1 hk1 hfB (ok (.lays cls Bundle.tN "backtrace" "Ljava/lang/Object;") (by simp [Bundle.ownAtomsX]))
  have bC := Cond.laysApart hdB hdC hnB2 hnC (by rw [hnB, Y.causeName]; decide)
  have bS := Cond.laysApart hdB hdS hnB2 hnS (by rw [hnB, Y.stackName]; decide)
  have bP := Cond.laysApart hdB hdP hnB2 hnP (by rw [hnB, Y.suppName]; decide)
  have hskip : SkipFacts T e.platform s (fun u => u) u0 ((preparedCellV T.toThrowableT (freshCell P1.m.cls kX) q u0 sen).withEntry V.cur) :=
    ⟨{ ci198 := cb, i198 := ib, fBack := fB }, ⟨hb1, hb2, hb3, hb4⟩, by
      have h9 := fresh_default (c := P1.m.cls) tB
      rw [htB] at h9
      simpa [preparedCellV, Cell.setSlot, Cell.withEntry, Array.getElem?_setIfInBounds, bC, bS, bP, bC.symm, bS.symm, bP.symm, defaultValue] using h9, fun _ _ => rfl⟩
  obtain ⟨tm, _, _, _, vm1, hn1, -, -, -, -, -, -, -, hW1, go1⟩ := Steps.initColdS (tb := p.tables) (e := e) (below := below) (s := s) (U := V) X.here hexec X.warmed hpl hown (t := Bundle.initS cls) rfl rfl (Bundle.fit_spec hfit.1).2
    (ok (.methodLink own ic (Bundle.initS cls)) (by simp [Bundle.ownAtomsX])) (hw (.instanceMethod (Bundle.initS cls)) (by cases names <;> simp [Bundle.ownAtomsX, Bundle.chainSAtomsX, Bundle.passSAtoms])) (bytes := rx) (maxL := 2) (hw (.code (Bundle.initS cls) rx 2 none) (by cases names <;> simp [Bundle.ownAtomsX, Bundle.chainSAtomsX, Bundle.passSAtoms]))
    (f := F0 m pc ls (msg :: .ref q :: .ref q :: rest)) rfl (a := q) (msg := msg) (rest := .ref q :: rest) rfl d6
  cases Option.some.inj (hn1.symm.trans hm1)
  obtain ⟨vm2, X2, go2⟩ := (X.noted hW1).ctorMessageOffV hexec (g := F0 m pc ls (.ref q :: rest)) rfl hsize T L Z LZ M LM (P1 :: Ps)
    (fun P hP => by rcases List.mem_cons.mp hP with rfl | hP; exact L1; exact hL P hP) ⟨hs1, hs2⟩ (u0 := u0) (sen := sen) (self := q) hmsg (cell := freshCell P1.m.cls kX) (cellS := cV)
    hq (fun _ => by simp) (by simp) rfl rfl (sel Bundle.tFill0 T.fill0 Y.fill0 (by decide) (by simp [Bundle.ownAtomsX])) (sel Bundle.tFill T.fill Y.fill (by decide) (by simp [Bundle.ownAtomsX])) hcV hne hkn (by rw [hkV _ (hnin _)]; exact hu0) (by rw [hkV _ (hnin _)]; exact hsen)
    (Takes.of_laid hk1 hord tC (by rw [Y.causeType]; rfl)) (Takes.of_laid hk1 hord tS (by rw [Y.stackType]; exact fits_refV_array _ u0)) (Takes.of_laid hk1 hord tP (by rw [Y.suppType]; exact fits_refV_object _ sen))
    (Takes.of_laid hk1 hord tM (by rw [Y.msgType]; exact fits_refV_object _ ⟨msg, hmsg⟩)) Y.objLocals hskip htr [] d6
    (by simp only [List.length_cons, hlen]; omega) (by simp only [List.length_cons, hlen]; show 2 * 0 + _ + _ ≤ _; omega)
  obtain ⟨go3, hrun, hend, hWU, hsame⟩ := X2.athrowLeaves hexec (g := F0 m (pc + 3) ls (.ref q :: rest)) rfl rfl rfl hout (a := q) (rest := rest) rfl d9 hlocks
  have hlt : q < ((V.setVm vm1).setVm vm2).heap.size := (Array.getElem?_eq_some_iff.mp hq).1
  have hU := heapAt_setCell_self (s := (V.setVm vm1).setVm vm2) (plainBareV T.toThrowableT (freshCell P1.m.cls kX) q u0 sen msg) hlt
  refine ⟨_, _, go1 _ (fun acts => ?_), hrun, hend, hWU, hsame.weaken (fun y hy hlt' => ?_) (Nat.le_refl _) (Nat.le_refl _), hU, rfl, rfl, ?_, fun z hz => ?_⟩
  · rw [doInvoke_state]
    exact go2 _ go3
  · rcases List.mem_append.mp hy with h1 | h1
    · exact h1
    · exfalso
      have hb9 : y.base = q := by
        simp only [List.mem_cons, List.not_mem_nil, or_false] at h1
        rcases h1 with rfl | rfl | rfl | rfl | rfl <;> rfl
      rw [hb9] at hlt'
      exact Nat.not_lt.mpr hnew hlt'
  · show (V.heap.setIfInBounds q _).size = V.heap.size
    rw [Array.size_setIfInBounds]
  · show (V.heap.setIfInBounds q _)[z]? = V.heap[z]?
    rw [Array.getElem?_setIfInBounds]
    rw [if_neg (fun h => hz h.symm)]
end Tx
