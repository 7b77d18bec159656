/-- a static reference of Throwable's: where it lies, and that it is no cell of A -/
def ex_f (n d : String) (A : Nat → Prop) (U : State) (H : Heap) : Prop := ∃ (c : ClassId) (k : Class) (i : Nat) (f : Field) (a : Nat) (cell : Cell) (v : Value), U.vm.findClass Bundle.tN = some c ∧ U.fieldFound? Bundle.tN n d = some (c, k, i, f) ∧ f.isStatic = true ∧ k.statics = some a ∧ H[a]? = some cell ∧ cell.vm.isStatics = true ∧ cell.cls = c ∧ f.slot < cell.slots.size ∧ k.staticTypes[f.slot]? = some f.type ∧ cell.slots[f.slot]? = some v ∧ v.isRef = true ∧ ¬ A a
theorem ex_f.moved {n d : String} {A : Nat → Prop} {u U : State} {H : Heap} (hvm : u.vm.Alike U.vm) (h : ex_f n d A u H) : ex_f n d A U H := by
  obtain ⟨c, k, i, f, a, cell, v, h1, h2, h3, h4, h5, h6, h7, h8, h9, h10⟩ := h
  obtain ⟨k2, hk2, e2⟩ := State.fieldFound?_setVm hvm h2
  exact ⟨c, k2, i, f, a, cell, v, by rw [hvm.findClass]; exact h1, hk2, h3, by rw [e2]; exact h4, h5, h6, h7, h8, by rw [e2]; exact h9, h10⟩
theorem ex_f.kept {n d : String} {A : Nat → Prop} {U : State} {H H1 : Heap} (h : ex_f n d A U H) (hq : ∀ q : Nat, q < H.size → ¬ A q → H1[q]? = H[q]?) : ex_f n d A U H1 := by
  obtain ⟨c, k, i, f, a, cell, v, h1, h2, h3, h4, h5, h6, h7, h8, h9, h10, h11, h12⟩ := h
  exact ⟨c, k, i, f, a, cell, v, h1, h2, h3, h4, by rw [hq a (Array.getElem?_eq_some_iff.mp h5).1 h12]; exact h5, h6, h7, h8, h9, h10, h11, h12⟩
theorem ex_f.narrow {n d : String} {A B : Nat → Prop} {U : State} {H : Heap} (h : ex_f n d A U H) (hB : ∀ q, B q → A q) : ex_f n d B U H := by
  obtain ⟨c, k, i, f, a, cell, v, h1, h2, h3, h4, h5, h6, h7, h8, h9, h10, h11, h12⟩ := h
  exact ⟨c, k, i, f, a, cell, v, h1, h2, h3, h4, h5, h6, h7, h8, h9, h10, h11, fun z => h12 (hB _ z)⟩
theorem ex_f.lays {n d : String} {A : Nat → Prop} {s : State} {args : Array Value} (h : ex_f n d A s s.heap) : (Cond.laysStatic Bundle.tN n d).before args s = true := by
  obtain ⟨c, k, i, f, a, cell, v, h1, h2, h3, h4, h5, h6, h7, h8, h9, -⟩ := h
  show (Cond.laysStatic Bundle.tN n d).holds args s none s [] = true
  exact Cond.laysStatic_of h1 h2 h3 h4 h5 h6 h7 h8 h9
theorem ex_f.isRef {n d : String} {A : Nat → Prop} {s : State} {args : Array Value} (h : ex_f n d A s s.heap) : (Cond.isRef (.static Bundle.tN n d)).before args s = true := by
  obtain ⟨c, k, i, f, a, cell, v, h1, h2, h3, h4, h5, h6, h7, h8, h9, h10, h11, -⟩ := h
  have he : (Term.static Bundle.tN n d).eval args s none [] s = some v := by
    simp [Term.eval, State.fieldNamed?, h2, h3, h4, h5, h6, h10]
  simp only [Cond.before, Cond.holds, Cond.value, he]
  cases v <;> simp_all [Value.isRef]
theorem ex_f.of {n d : String} {A : Nat → Prop} {s : State} {args : Array Value} (hl : (Cond.laysStatic Bundle.tN n d).before args s = true) (hr : (Cond.isRef (.static Bundle.tN n d)).before args s = true) (hA : ∀ q : Nat, q < s.heap.size → ¬ A q) : ex_f n d A s s.heap := by
  obtain ⟨c, k, i, f, a, cell, h1, h2, h3, h4, h5, h6, h7, h8, h9⟩ := Cond.laysStatic_spec hl
  have he : (Term.static Bundle.tN n d).eval args s none [] s = cell.slots[f.slot]? := by
    simp [Term.eval, State.fieldNamed?, h2, h3, h4, h5, h6]
  have hv : cell.slots[f.slot]? = some cell.slots[f.slot] := Array.getElem?_eq_getElem h8
  refine ⟨c, k, i, f, a, cell, cell.slots[f.slot], h1, h2, h3, h4, h5, h6, h7, h8, h9, hv, ?_, hA a (Array.getElem?_eq_some_iff.mp h5).1⟩
  rw [hv] at he
  simp only [Cond.before, Cond.holds, Cond.value, he] at hr
  generalize cell.slots[f.slot] = v at hr
  cases v <;> simp_all [Value.isRef]
def ex_E : List String := ["java/lang/IllegalArgumentException", "java/lang/ArithmeticException", "java/lang/IllegalStateException", "java/util/NoSuchElementException"]
def ex_D : List String := ["java/lang/RuntimeException", "java/lang/Exception", "java/lang/Throwable"]
def ex_N : List (String × String) := [("java/lang/ArithmeticException", "java/lang/IllegalArgumentException"), ("java/lang/IllegalStateException", "java/lang/IllegalArgumentException"), ("java/lang/IllegalStateException", "java/lang/ArithmeticException")]
def ex_S : List (Nat × String) := [(60, "floor, value and ceiling are not in this order, or too far apart"), (74, "all weights are 0"), (83, "there are as many bounds as can be"), (193, "no such share"), (196, "no such bound"), (214, "no such sum"), (219, "no such row"), (227, "nothing waits there")]
/-- what a throw needs of a state, beyond the good words -/
def ex_Z (A : Nat → Prop) (U : State) (H : Heap) : Prop := (∀ x ∈ ex_E, va_Nw (.castable x x) U) ∧ (∀ x ∈ ex_D, va_Nw (.declares (Bundle.initS x)) U) ∧ (∀ x ∈ ex_N, va_Nc x.1 x.2 U) ∧ (∀ x ∈ ex_S, ∃ a, vk_R "LentBounds" x.1 x.2 a U) ∧ ex_f "UNASSIGNED_STACK" Bundle.steD A U H ∧ ex_f "SUPPRESSED_SENTINEL" Bundle.listD A U H
theorem ex_Z.moved {A : Nat → Prop} {s U : State} {H : Heap} (hW : s.WarmedH U.vm) (h : ex_Z A s H) : ex_Z A U H :=
  ⟨fun x hx => va_Nw.warmC hW (h.1 x hx), fun x hx => va_Nw.warmD hW (h.2.1 x hx), fun x hx => (h.2.2.1 x hx).moved hW.alike, fun x hx => (h.2.2.2.1 x hx).elim fun a ha => ⟨a, vk_R.warm hW ha⟩, h.2.2.2.2.1.moved hW.alike, h.2.2.2.2.2.moved hW.alike⟩
theorem ex_Z.kept {A : Nat → Prop} {U : State} {H H1 : Heap} (h : ex_Z A U H) (hq : ∀ q : Nat, q < H.size → ¬ A q → H1[q]? = H[q]?) : ex_Z A U H1 := ⟨h.1, h.2.1, h.2.2.1, h.2.2.2.1, h.2.2.2.2.1.kept hq, h.2.2.2.2.2.kept hq⟩
theorem ex_Z.narrow {A B : Nat → Prop} {U : State} {H : Heap} (h : ex_Z A U H) (hB : ∀ q, B q → A q) : ex_Z B U H := ⟨h.1, h.2.1, h.2.2.1, h.2.2.2.1, h.2.2.2.2.1.narrow hB, h.2.2.2.2.2.narrow hB⟩
/-- the contracts of methods that may throw: an answer, or an exception of that name, the state behind it -/
def tx_P (D : va_G) (cl : List vw_C) (tys : List (ClassId × FieldType)) (w : va_W) (sz : Nat) (as : List Value) : Array Value → State → Prop :=
  va_Pc as (fun U => U.heap.size = sz ∧ va_P D cl w U.heap ∧ va_K D cl tys U ∧ va_D (fun _ => True) w ∧ ex_Z (va_A w sz) U U.heap)
def tx_X {σ : Type} (D : va_G) (cl : List vw_C) (tys : List (ClassId × FieldType)) (wd : σ → va_W) (A : Nat → Prop) (px : String → σ → Prop) : Array Value → State → Outcome → State → Prop := fun _ st o t =>
  ∃ (q : Addr) (E : String) (S2 : σ) (ce : Cell), o = .threw q ∧ px E S2 ∧ ct_B D cl tys wd A S2 t ∧ va_F A st t ∧ t.heap[q]? = some ce ∧ ce.vm = .none ∧ st.vm.findClass E = some ce.cls ∧ ∃ L, Jvm.Free.FrameEndT st o t L 1 6 ∧ ∀ z ∈ L, A z.base
def tx_Q {σ : Type} (D : va_G) (cl : List vw_C) (tys : List (ClassId × FieldType)) (wd : σ → va_W) (A : Nat → Prop) (Qc : Array Value → State → Outcome → State → Prop) (px : String → σ → Prop) : Array Value → State → Outcome → State → Prop := fun a st o t =>
  (Qc a st o t ∧ ∃ L, FrameEnd st o t L 1 6 ∧ ∀ q ∈ L, A q.base) ∨ tx_X D cl tys wd A px a st o t
def tx_M {σ : Type} (l : Launch) (y : MethodName) (wz : List Cond) (rm : Room) (D : va_G) (cl : List vw_C) (tys : List (ClassId × FieldType)) (wd : σ → va_W) (S : σ) (as : List Value) (Qc : (Nat → Prop) → Array Value → State → Outcome → State → Prop) (px : String → σ → Prop) : Prop :=
  ∀ sz : Nat, MetFree l y (headSpec wz rm) (tx_P D cl tys (wd S) sz as) (fun _ _ _ _ _ => True) (tx_Q D cl tys wd (va_A (wd S) sz) (Qc (va_A (wd S) sz)) px)
def tx_MQ (below : List Frame) (Qx : Array Value → State → Outcome → State → Prop) (a : Array Value) (s : State) : State → Prop := fun t => ∃ o, t.status = .running ∧ Ended t below o ∧ Qx a s o t
theorem tx_blind {D : va_G} {cl : List vw_C} {tys : List (ClassId × FieldType)} {w : va_W} {sz : Nat} {as : List Value} : FrameBlind (tx_P D cl tys w sz as) := fun a U g mk q => by
  obtain ⟨q0, q1, qP, qK, qD, qZ⟩ := q
  exact ⟨q0, q1, qP, va_K.moved (u := U) (U := U.calling g mk a) (Vm.Alike.refl U.vm) qK, qD, qZ.moved (s := U) (U := U.calling g mk a) (State.WarmedH.refl U)⟩
theorem tx_stat {D : va_G} {cl : List vw_C} {w : va_W} {H : Heap} (hP : va_P D cl w H) : ∀ (q : Nat) (cell : Cell), va_A w H.size q → H[q]? = some cell → cell.vm.isStatics = false := by
  intro q cell hq hc
  rcases hq with ⟨k, en, hk⟩ | hq
  · have h9 := hP k _ hk
    cases en with
    | inl a =>
      have h8 : H[q]? = some (vp_cell a.1 a.2) := h9
      rw [h8] at hc
      cases hc
      obtain ⟨cA, n, b⟩ := a
      rcases b with b | b | b | b | b <;> rfl
    | inr o =>
      obtain ⟨r, h1, cell2, g1, g2, g3, -⟩ := h9
      have g1 : H[q]? = some cell2 := g1
      rw [g1] at hc
      cases hc
      rw [g3]; rfl
  · have h1 := (Array.getElem?_eq_some_iff.mp hc).1
    exact absurd h1 (Nat.not_lt.mpr hq)
section Tx2
variable {p : Program} {l : Launch} {e : Env} {R : Room} {s : State} {m : MethodId} {args : Array Value} {below : List Frame} {meth : Method} {c : Code} {H : Heap} {locs : List Loc} {cells slots : Nat} {Q : State → Prop}
variable {cc : ByteArray} {pc maxL : Nat} {ls : Array Slot} {rest st0 : List Value} {D : va_G} {cl : List vw_C} {A : Nat → Prop} {tys : List (ClassId × FieldType)} {H0 : Heap} {σ : Type} {wd : σ → va_W} {S : σ} {y : MethodName} {rm : Room}
theorem W.mono {Q2 : State → Prop} {g : JFrame} (h : ∀ t, Q t → Q2 t) (k : W p l e R s m args below meth c H locs cells slots Q g) : W p l e R s m args below meth c H locs cells slots Q2 g := fun T hT X => by
  obtain ⟨t, a1, b1⟩ := k T hT X
  exact ⟨t, a1, h t b1⟩
theorem tx_ret {Qc : Array Value → State → Outcome → State → Prop} {px : String → σ → Prop} {g : JFrame} (k : W p l e R s m args below meth c H locs cells slots (MQ below Qc args s 0 0 A) g) : W p l e R s m args below meth c H locs cells slots (tx_MQ below (tx_Q D cl tys wd A Qc px) args s) g :=
  W.mono (fun t ⟨o, h1, h2, h3, L, ⟨h4, h5, h6⟩, h7⟩ => ⟨o, h1, h2, Or.inl ⟨h3, L, ⟨h4, h5, h6.mono (by omega) (by omega)⟩, h7⟩⟩) k
theorem tx_of {ret : Option FieldType} {as : List Value} {Qc : (Nat → Prop) → Array Value → State → Outcome → State → Prop} {px : String → σ → Prop} (hy : plainName y.cls = true) (hn : (lg_sl as).length ≤ maxL)
    (body : ∀ (p : Program) (e : Env) (s : State) (m : MethodId) (below : List Frame) (meth : Method) (c : Code) (A : Nat → Prop) (ls : Array Slot), p.tables.exec = Jvm.exec → c.code = cc → meth.sig.returnType = ret → c.maxLocals = maxL → (∀ w ∈ wa_T, w.before as.toArray s = true) → s.vm.findClass y.cls = some m.cls → meth.locks = false → va_K D cl tys s → (∀ q : Nat, s.heap.size ≤ q → A q) → wo_w D cl A s.heap (wd S) s.heap [] → lv_has ls maxL (lv_args 0 as) →
      (∀ x ∈ c.exceptionTable.toList, False) → ex_Z A s s.heap → (∀ (q : Nat) (cell : Cell), A q → s.heap[q]? = some cell → cell.vm.isStatics = false) →
      W p l e rm s m as.toArray below meth c s.heap [] 0 0 (tx_MQ below (tx_Q D cl tys wd A (Qc A) px) as.toArray s) (F0 m 0 ls [])) : tx_M l y (Cond.code y cc maxL ret :: wa_T) rm D cl tys wd S as Qc px := by
  intro sz
  refine MetFree.of_bodyS (code := cc) (maxLocals := maxL) (ret := ret) hy ?_ ?_
  · intro args s m h hn
    obtain ⟨meth, c, h1, h2, h3, h4, h5, h6, -, -⟩ := Cond.code_spec hn (atoms_spec (ws := Cond.code y cc maxL ret :: wa_T) h _ List.mem_cons_self)
    exact ⟨meth, c, h1, h2, h3, h4, h5, h6⟩
  · intro p e s m args below meth c s₁ B hml hv _
    have hh0 : s₁.heap = s.heap := by rw [B.state]; rfl
    obtain ⟨rfl, hsz, hP, hK, hD0, hZ⟩ := hv
    subst hsz
    have ht : ∀ x ∈ c.exceptionTable.toList, False := by
      have h9 := B.noHandlers (atoms_spec (ws := Cond.code y cc maxL ret :: wa_T) B.pre _ List.mem_cons_self)
      intro x hx
      rw [Array.isEmpty_iff.mp h9] at hx
      cases hx
    have hl := lv_entry as (n := maxL) hn
    obtain ⟨t, a1, o, b1, b2, b3⟩ := body p e s m below meth c _ _ B.exec B.bytes B.returns hml (fun w h => atoms_spec (ws := Cond.code y cc maxL ret :: wa_T) B.pre w (List.mem_cons_of_mem _ h)) (findClass_of_methodNamed B.named) B.notSynchronized hK (fun q h => Or.inr h) ⟨hP, hD0.self, va_S.rf⟩ hl ht hZ (tx_stat hP) s₁ hh0 (Stand.of_body B)
    refine ⟨t, o, ?_, b1, b2, b3⟩
    rw [lg_entry_eq]
    exact a1
/-- throw new cls("text") -/
theorem tx_throw {px : String → σ → Prop} {Qc : Array Value → State → Outcome → State → Prop} (hexec : p.tables.exec = Jvm.exec) (hb : c.code = cc) (hl : l.stackTraces = false) {own cls text : String} {names : List String} {ik is ic ix sa : Nat} {rx : ByteArray}
    (hrx : decode rx 0 = .ok (.aload_n 0, 1) ∧ decode rx 1 = .ok (.aload_n 1, 1) ∧ decode rx 2 = .ok (.invokespecial ix, 3) ∧ decode rx 5 = .ok (.return_, 1)) (hown : s.vm.findClass own = some m.cls) (hfit : Bundle.fit cls = true ∧ ∀ n ∈ names, Bundle.fit n = true)
    (hat : ∀ w ∈ Bundle.ownAtomsX own ic cls ix rx names, w.before args s = true) (hk : (Cond.classLink own ik cls).before args s = true) (hini : (Cond.initialized cls).before args s = true) (hstr : vk_R own is text sa s)
    (hst : ∀ (q : Nat) (cell : Cell), A q → s.heap[q]? = some cell → cell.vm.isStatics = false) (hA : ∀ q : Nat, s.heap.size ≤ q → A q) (hK : va_K D cl tys s) (hw : wo_w D cl A s.heap (wd S) H locs) (hp : px cls S) (hsize : ls.size = c.maxLocals) (hout : ∀ x ∈ c.exceptionTable.toList, False)
    (hR : names.length + 3 < R.frames ∧ (rest.map fun v => v.category).sum + (13 * (names.length + 1) + 43) ≤ R.locals ∧ 1 ≤ R.cells ∧ 6 ≤ R.slots) (hlocks : meth.locks = false)
    (d0 : decode cc pc = .ok (.new ik, 3)) (d3 : decode cc (pc + 3) = .ok (.dup, 1)) (d4 : decode cc (pc + 4) = .ok (.ldc is, 2)) (d6 : decode cc (pc + 6) = .ok (.invokespecial ic, 3)) (d9 : decode cc (pc + 9) = .ok (.athrow, 1)) :
    W p l e R s m args below meth c H locs 0 0 (tx_MQ below (tx_Q D cl tys wd A Qc px) args s) (F0 m pc ls rest) := by
  refine W.newc hexec hb hown hk (hat (.instantiable cls 6) (by simp [Bundle.ownAtomsX])) hini (g := F0 m pc ls rest) rfl d0 (by omega) (by omega) ?_
  intro cC kC h1 h2 h3 h4
  refine lv_dup hexec hb d3 rfl ?_
  refine va_ldcS hexec hb hown hstr d4 ?_
  intro V hV X
  subst hb
  have htr : e.platform.stackTraces = false := (show e.platform.stackTraces = l.stackTraces by rw [X.admits.platform]).trans hl
  have hs := hw.2.2
  obtain ⟨t, ce, go, r1, r2, r3, r4, r5, r6, r7, r8, r9⟩ := tx_ctor X hexec htr hrx hown hfit hat (fun x hx cell hc => hst _ cell (hs.2.2 x hx) hc) h1 h2 (q := H.size) (by rw [hV]; exact Array.getElem?_push_size) hs.1 (msg := .ref sa) rfl (rest := rest) hsize d6 d9 (fun x hx => (hout x hx).elim) hR.1
    (by simp only [List.map_cons, List.sum_cons]; show 1 + _ + _ ≤ _; omega) hlocks
  have z1 : t.heap.size = H.size + 1 := by rw [r8, hV, Array.size_push]
  have z2 : ∀ z : Nat, z < H.size → t.heap[z]? = H[z]? := fun z hz => by
    rw [r9 z (Nat.ne_of_lt hz), hV, Array.getElem?_push_lt hz, Array.getElem?_eq_getElem hz]
  refine ⟨t, go, .threw H.size, r1, r2, Or.inr ⟨H.size, cls, S, ce, rfl, hp, ⟨hw.1.kept (fun k q hq => z2 q.1 (hw.1 k q hq).lt), va_K.moved r3.alike hK, hw.2.1⟩, ⟨?_, fun q hq hn => ?_⟩, r5, r6, by rw [r7]; exact h1, locs, ⟨⟨_, rfl⟩, r3, r4.mono (by omega) (by omega)⟩, hs.2.2⟩⟩
  · have := hs.1; omega
  · rw [z2 q (Nat.lt_of_lt_of_le hq hs.1)]
    exact hs.2.1 q hq hn
end Tx2
