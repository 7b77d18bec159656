/-- the rows of a table up to the one that catches E -/
def tx_c (own : String) (s : State) (args : Array Value) (c : Code) (pc : Nat) (E : String) (hpc : Nat) : Prop :=
  ∃ (pre : List ExceptionTableEntry) (x : ExceptionTableEntry) (rest : List ExceptionTableEntry), c.exceptionTable.toList = pre ++ x :: rest ∧ x.handlerPc = hpc ∧ covers x pc = true ∧ x.catchType ≠ 0 ∧ (Cond.classLink own x.catchType E).before args s = true ∧ va_Nw (.castable E E) s ∧
    ∀ z ∈ pre, z.catchType ≠ 0 ∧ ∃ nm, (Cond.classLink own z.catchType nm).before args s = true ∧ va_Nc E nm s
section Tx3
variable {p : Program} {l : Launch} {e : Env} {R : Room} {s : State} {m : MethodId} {args : Array Value} {below : List Frame} {meth : Method} {c : Code} {H : Heap} {locs : List Loc} {cells slots : Nat} {Q : State → Prop}
variable {cc bytes : ByteArray} {pc maxL nL n index mc ms : Nat} {ret : Option FieldType} {Ts : List Cond} {own C host : String} {b : Addr} {As : List Value} {ls : Array Slot} {rest st0 : List Value} {D : va_G} {cl : List vw_C} {A : Nat → Prop} {tys : List (ClassId × FieldType)} {H0 : Heap} {σ : Type} {wd : σ → va_W} {S : σ} {y : MethodName} {wz : List Cond} {rm : Room} {w1 w2 : va_W}
theorem fw_I {post : Int32 → σ → Prop} {ar : Array Value} (hw : wo_w D cl A H0 (w1 ++ (wd S ++ w2)) H locs) (hA : ∀ q, H0.size ≤ q → A q)
    (hr : va_Run p l e R s m args below meth c H locs cells slots mc ms (F0 m pc ls st0) rest (va_Qi post (ct_B D cl tys wd (va_A (wd S) H.size)) (va_A (wd S) H.size) ar) (va_A (wd S) H.size))
    (kk : ∀ (r : Int32) (S2 : σ) (H1 : Heap) (locs1 : List Loc), post r S2 → wo_w D cl A H0 (w1 ++ (wd S2 ++ w2)) H1 locs1 → W p l e R s m args below meth c H1 locs1 (cells + mc) (slots + ms) Q (F0 m (pc + 3) ls (.int r :: rest))) : W p l e R s m args below meth c H locs cells slots Q (F0 m pc ls st0) := by
  have hF := fr_free hw hA
  refine va_calli hr hw.2.2 (fun q _ h => hF q h) hF (fun r u t H1 locs1 ht hvm hp hB hz1 hk1 hS => ?_)
  obtain ⟨hP1, hK1, hD1⟩ := hB
  rw [ht] at hP1
  exact kk r u H1 locs1 hp (fr_call hw hF hP1 hD1 hk1 hS)
theorem fw_L {post : Int64 → σ → Prop} {ar : Array Value} (hw : wo_w D cl A H0 (w1 ++ (wd S ++ w2)) H locs) (hA : ∀ q, H0.size ≤ q → A q)
    (hr : va_Run p l e R s m args below meth c H locs cells slots mc ms (F0 m pc ls st0) rest (va_Ql post (ct_B D cl tys wd (va_A (wd S) H.size)) (va_A (wd S) H.size) ar) (va_A (wd S) H.size))
    (kk : ∀ (r : Int64) (S2 : σ) (H1 : Heap) (locs1 : List Loc), post r S2 → wo_w D cl A H0 (w1 ++ (wd S2 ++ w2)) H1 locs1 → W p l e R s m args below meth c H1 locs1 (cells + mc) (slots + ms) Q (F0 m (pc + 3) ls (.long r :: rest))) : W p l e R s m args below meth c H locs cells slots Q (F0 m pc ls st0) := by
  have hF := fr_free hw hA
  refine va_calll hr hw.2.2 (fun q _ h => hF q h) hF (fun r u t H1 locs1 ht hvm hp hB hz1 hk1 hS => ?_)
  obtain ⟨hP1, hK1, hD1⟩ := hB
  rw [ht] at hP1
  exact kk r u H1 locs1 hp (fr_call hw hF hP1 hD1 hk1 hS)
theorem tx_pre (hK : va_K D cl tys s) (hZ : ex_Z A s s.heap) (hw : wo_w D cl A s.heap (w1 ++ (wd S ++ w2)) H locs) (hA : ∀ q, s.heap.size ≤ q → A q) (as : List Value) : PreS s H (tx_P D cl tys (wd S) H.size as) as :=
  ⟨tx_blind, fun U hU hW => ⟨rfl, by rw [hU], by rw [hU]; exact (fr_part hw).1, va_K.moved hW.alike hK, (fr_part hw).2.1.weaken (fun _ _ _ _ => trivial), by
    rw [hU]; exact ((hZ.kept hw.2.2.2.1).narrow (fr_free hw hA)).moved hW⟩⟩
theorem tx_preV (hK : va_K D cl tys s) (hZ : ex_Z A s s.heap) (hw : wo_w D cl A s.heap (w1 ++ (wd S ++ w2)) H locs) (hA : ∀ q, s.heap.size ≤ q → A q) (q0 : Nat) {ci : Nat} {r : vw_C} {fs : List Value} (hc : cl[ci]? = some r) (he : (wd S)[q0]? = some (b, .inr (ci, fs))) (As : List Value) : PreV s H r.1 b (tx_P D cl tys (wd S) H.size (.ref b :: As)) As :=
  ⟨tx_blind, va_recv hK (fr_part hw).1 hc he, (tx_pre hK hZ hw hA (.ref b :: As)).2⟩
theorem tx_norm {as : List Value} {Qc : (Nat → Prop) → Array Value → State → Outcome → State → Prop} {px : String → σ → Prop} (hM : tx_M l y wz rm D cl tys wd S as Qc px) (hno : ∀ E S2, ¬ px E S2) (sz : Nat) : Met l y wz rm (tx_P D cl tys (wd S) sz as) (Qc (va_A (wd S) sz)) 1 6 (va_A (wd S) sz) := by
  intro p e h1 h2 h3 s m args below h4 h5 h6 h7
  obtain ⟨n, o, a1, a2, a3, a4⟩ := hM sz p e h1 h2 h3 s m args below h4 h5 h6 h7
  refine ⟨n, o, a1, a2, a3, ?_⟩
  rcases a4 with h | ⟨q, E, S2, ce, -, h, -⟩
  · exact h
  · exact absurd h (hno E S2)
/-- a call of a method that throws here, caught in this method -/
theorem tx_vX {Qc : (Nat → Prop) → Array Value → State → Outcome → State → Prop} {px : String → σ → Prop} (hM : tx_M l y wz rm D cl tys wd S (.ref b :: As) Qc px) (hno : ∀ A a st o t, ¬ Qc A a st o t) (X : CallFix p m c cc nL s args Ts own) (cw : CallW R s args own C index y bytes maxL ret wz rm 1 6 n)
    (hK : va_K D cl tys s) (hZ : ex_Z A s s.heap) (hw : wo_w D cl A s.heap (w1 ++ (wd S ++ w2)) H locs) (hA : ∀ q, s.heap.size ≤ q → A q) (q0 : Nat) {ci : Nat} {r0 : vw_C} {fs : List Value} (hc : cl[ci]? = some r0) (hC : r0.1 = C) (he : (wd S)[q0]? = some (b, .inr (ci, fs))) (hn : As.length = n) (hsize : ls.size = nL) (hst : st0 = As.reverse ++ .ref b :: rest) (hrm : (rest.map fun v => v.category).sum ≤ 8) (hdg : decode cc pc = .ok (.invokevirtual index, 3)) (hf : cells + 1 ≤ R.cells ∧ slots + 6 ≤ R.slots)
    (kx : ∀ (E : String) (S2 : σ) (q : Addr) (H1 : Heap) (locs1 : List Loc), px E S2 → wo_w D cl A s.heap (w1 ++ (wd S2 ++ w2)) H1 locs1 → ∃ hpc, tx_c own s args c pc E hpc ∧ W p l e R s m args below meth c H1 locs1 (cells + 1) (slots + 6) Q (F0 m hpc ls [.ref q])) : W p l e R s m args below meth c H locs cells slots Q (F0 m pc ls st0) := by
  subst hC
  have hp := tx_preV hK hZ hw hA q0 hc he As
  obtain ⟨⟨hrc, hrs, hfr, hlo, hws, hcw, hcode, hini, hy, hlen, hl⟩, hin, hse⟩ := cw
  obtain ⟨hx, hb, hml, ho, -⟩ := X
  have hB : Jvm.Free.BackT l R p e below s args y 3 8 (PreOf R 1 6 (tx_P D cl tys (wd S) H.size (.ref b :: As)))
      (fun PA a x PB => ∃ (g : JFrame) (mk : MethodId) (t : State) (L : List Loc), PB.U.heap = t.heap ∧ PB.U.vm = t.vm ∧ tx_X D cl tys wd (va_A (wd S) H.size) px a (PA.U.calling g mk a) (.threw x) t ∧ PB.locs = PA.locs ++ L ∧ (∀ z ∈ L, va_A (wd S) H.size z.base) ∧ PB.cells = PA.cells + 1 ∧ PB.slots = PA.slots + 6) := by
    refine Jvm.Free.BackT.of_free (S := headSpec wz rm) (K := fun _ _ _ _ _ => True) (bytes := bytes) (maxL := maxL) (ret := ret)
      (E := fun a st o t L k n => k = 1 ∧ n = 6 ∧ (∀ z ∈ L, va_A (wd S) H.size z.base)) (hM H.size) hfr hlo ?_ ?_ (fun _ _ _ _ _ _ _ _ _ => trivial) ?_ ?_
    · intro m meth c PA a Z hp9
      exact ⟨atoms_intro fun w hw9 => hws w hw9 _ _ Z.warmed, hws _ hcw _ _ Z.warmed, word_at Z.warmed (Or.inl (by first | rfl | simp [Cond.onTables, Cond.keeps, Cond.steady])) hini, by rw [show (headSpec wz rm).room.cells = 1 from hrc]; exact hp9.1, by rw [show (headSpec wz rm).room.slots = 6 from hrs]; exact hp9.2.1⟩
    · intro m meth c PA a g mk Z hp9
      exact tx_blind _ _ _ _ hp9.2.2
    · intro a st o t hq
      rcases hq with ⟨h, -⟩ | ⟨q, E, S2, ce, h1, h2, h3, h4, h5, h6, h7, L, h8, h9⟩
      · exact absurd h (hno _ _ _ _ _)
      · exact ⟨L, 1, 6, h8, rfl, rfl, h9⟩
    · intro m meth c PA a g mk v t L k n9 Z hp9 hq hfe hE
      obtain ⟨rfl, rfl, hL⟩ := hE
      rcases hq with ⟨h, -⟩ | hq
      · exact absurd h (hno _ _ _ _ _)
      · exact ⟨g, mk, t, L, rfl, rfl, hq, rfl, hL, rfl, rfl⟩
  obtain ⟨-, ⟨cellB, hcB, hoB, hclB⟩, hPc⟩ := hp
  intro T hT Z
  subst hb
  obtain ⟨mk, methM, hnamed, hmethM, hstM, habM⟩ := Cond.instanceMethod_spec hin
  obtain ⟨methM', cM, hmethM', -, -, -, -, -, -, hsigM⟩ := Cond.code_spec hnamed hcode
  cases hmethM.symm.trans hmethM'
  obtain ⟨c2, r2, m2, q1, q2, q3, q4, kP, hkP, hkPi⟩ := Cond.selects_spec hse
  cases hclB.symm.trans q1
  cases (State.methodFound?_of_named hnamed hy).symm.trans q2
  cases hnamed.symm.trans q3
  obtain ⟨vm1, Z1, go1⟩ := Z.invokevirtual hx ho hl hnamed hmethM hstM hkP hkPi hy (a := b) (cell := cellB) (by rw [hT]; exact hcB)
    (fun z h => by rw [h] at hoB; cases hoB) (by rw [Launch.admits_selectMethod Z.admits]; exact q4) hmethM habM hkP hkPi (g := F0 m pc ls st0) rfl (argsL := As) (rest := rest) (hn.trans (hlen _ hsigM)) hst hdg
  obtain ⟨x, ⟨U2, l2, c2, s2⟩, Z2, ⟨g', mk', t, L, e1, e2, ⟨q, E, S2, ce, hq0, hpx, hBt, hF, hce, hcv, hcl9, -⟩, h1, hL, h2, h3⟩, go2⟩ := hB m meth c ⟨T.setVm vm1, locs, cells, slots⟩ (F0 m pc ls rest) (.invokevirtual index) mk (Value.ref b :: As).toArray Z1 rfl (hsize.trans hml.symm) hdg (lv_room hrm) (Z1.named hnamed) ⟨hf.1, hf.2, hPc (T.setVm vm1) hT Z1.warmed⟩
  cases hq0
  dsimp only [Pt.U, Pt.locs, Pt.cells, Pt.slots] at Z2 e1 e2 h1 h2 h3 go2
  subst h1; subst h2; subst h3
  have hfree := fr_free hw hA
  have hT' : ((T.setVm vm1).calling g' mk' (Value.ref b :: As).toArray).heap = H := hT
  obtain ⟨f1, f2⟩ := hF
  rw [hT'] at f1 f2
  have hS2 : va_S A s.heap U2.heap (locs ++ L) := ⟨Nat.le_trans hw.2.2.1 (by rw [e1]; exact f1), fun z hz hn9 => by
      rw [e1, f2 z (Nat.lt_of_lt_of_le hz hw.2.2.1) (fun h => hn9 (hfree z h))]; exact hw.2.2.2.1 z hz hn9, fun z hz => by
      rcases List.mem_append.mp hz with h | h
      · exact hw.2.2.2.2 z h
      · exact hfree _ (hL z h)⟩
  have hw2 : wo_w D cl A s.heap (w1 ++ (wd S2 ++ w2)) U2.heap (locs ++ L) := fr_call hw hfree (by rw [e1]; exact hBt.1) hBt.2.2 (fun z hz hn9 => by rw [e1]; exact f2 z hz hn9) hS2
  obtain ⟨hpc, ⟨pre, xe, rs, t1, t2, t3, t4, t5, t6, t7⟩, kW⟩ := kx E S2 x U2.heap (locs ++ L) hpx hw2
  have hcls : s.vm.findClass E = some ce.cls := by
    have h9 : vm1.findClass E = some ce.cls := hcl9
    have h8 : s.WarmedH vm1 := Z1.warmed
    rw [h8.alike.findClass] at h9
    exact h9
  have hpl : e.platform.magicAccessors = ({} : Platform).magicAccessors := by rw [Z.admits.platform]
  obtain ⟨a8, b8, y1, y2, y3⟩ := Cond.castable_spec (va_Nw.use (A := args) rfl t6)
  cases Option.some.inj (y1.symm.trans hcls)
  obtain ⟨r1, r2⟩ := Z2.catches_of_link ho t4 t5 y2 y3
  obtain ⟨vm3, Z3, go3⟩ := Z2.thenCaughtThrough x (g := F0 m pc ls rest) rfl go2 (cell := ce) (by rw [e1]; exact hce) (by rw [hcv]; rfl) r2 pre xe rs t1
    (fun z hz => by
      obtain ⟨z0, nm, z1, z2⟩ := t7 z hz
      obtain ⟨c6, hc6, hl6⟩ := Cond.classLink_spec ho z1 e.platform hpl
      obtain ⟨a9, b9, k1, k2, k3⟩ := z2
      cases Option.some.inj (k1.symm.trans hcls)
      cases Option.some.inj (k2.symm.trans hc6)
      exact Or.inr ⟨z0, _, hl6, k3⟩) t3 r1
  obtain ⟨tt, a1, b1⟩ := kW (U2.setVm vm3) rfl Z3
  refine ⟨tt, go1 _ (fun acts => ?_), b1⟩
  rw [doInvoke_state]
  subst t2
  exact go3.trans a1
/-- a static call of a method with a table, that answers -/
theorem tx_runSW {hh : List (Nat × Nat × Nat × Nat)} {Pc : Array Value → State → Prop} {Qc : Array Value → State → Outcome → State → Prop} {free : Addr → Prop} (X : CallFix p m c cc nL s args Ts own) (hM : Met l y wz rm Pc Qc mc ms free)
    (hz : rm.cells = mc ∧ rm.slots = ms ∧ rm.frames + 1 ≤ R.frames ∧ 8 + (maxL + 11) + rm.locals ≤ R.locals) (hws : ∀ w ∈ wz, ∀ (a' : Array Value) (U : State), s.WarmedH U.vm → w.before a' U = true) (hcw : Cond.codeWith y bytes maxL ret hh ∈ wz) (hcode : (Cond.codeWith y bytes maxL ret hh).before args s = true)
    (hini : (Cond.initialized y.cls).before args s = true) (hy : y.cls ≠ "java/lang/invoke/MethodHandle" ∧ y.cls ≠ "java/lang/invoke/VarHandle") (hlen : (parseMethodDescriptor y.desc).map (fun d => d.parameters.length) = some As.length) (hl : (Cond.methodLink own index y).before args s = true) (hstt : (Cond.static y).before args s = true) (hp : PreS s H Pc As)
    (hsize : ls.size = nL) (hst : st0 = As.reverse ++ rest) (hrm : (rest.map fun v => v.category).sum ≤ 8) (hdg : decode cc pc = .ok (.invokestatic index, 3)) (hf : cells + mc ≤ R.cells ∧ slots + ms ≤ R.slots) :
    va_Run p l e R s m args below meth c H locs cells slots mc ms (F0 m pc ls st0) rest (Qc As.toArray) free := by
  obtain ⟨hrc, hrs, hfr, hlo⟩ := hz
  have hK : Back l R p e below s args y 3 8 (PreOf R mc ms Pc) (PostOf Qc mc ms free) := va_backW (hh := hh) (bytes := bytes) (maxL := maxL) (ret := ret) hM hp.1 hrc hrs hfr hlo hws hcw (fun a' U hW => word_at hW (Or.inl (by first | rfl | simp [Cond.onTables, Cond.keeps, Cond.steady])) hini)
  obtain ⟨hx, hb, hml, ho, -⟩ := X
  intro T hT Z
  subst hb
  obtain ⟨mk, methM, cM, hnamed, hmethM, -, -, -, -, -, -, hsigM⟩ := Cond.codeWith_spec hcode
  obtain ⟨kP, hkP, -⟩ := className_of_methodNamed hnamed
  have hn : As.length = methM.sig.parameters.length := by
    rw [hsigM] at hlen
    exact (Option.some.inj hlen).symm
  obtain ⟨vm1, Z1, go1⟩ := Z.invokestatic hx ho hl hnamed hmethM (Cond.static_spec hnamed hmethM hstt) hkP (Cond.initialized_spec (findClass_of_methodNamed hnamed) hkP hini) hy (g := F0 m pc ls st0) rfl (argsL := As) (rest := rest) hn hst hdg
  obtain ⟨v, ⟨U2, l2, c2, s2⟩, Z2, ⟨g', mk', t, L, e1, e2, hq, h1, hL, h2, h3⟩, go2⟩ := hK m meth c ⟨T.setVm vm1, locs, cells, slots⟩ (F0 m pc ls rest) (.invokestatic index) mk As.toArray Z1 rfl (hsize.trans hml.symm) hdg (lv_room hrm) (Z1.named hnamed) ⟨hf.1, hf.2, hp.2 (T.setVm vm1) hT Z1.warmed⟩
  dsimp only [Pt.U, Pt.locs, Pt.cells, Pt.slots] at Z2 e1 e2 h1 h2 h3 go2
  subst h1; subst h2; subst h3
  exact ⟨v, (T.setVm vm1).calling g' mk' As.toArray, t, U2, L, hT, Z2, hL, e1, e2, hq, fun target h => go1 _ fun acts => by rw [doInvoke_state]; exact go2.trans h⟩
end Tx3
