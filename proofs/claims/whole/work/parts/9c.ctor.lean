/-! Constructors: worlds that grow; rows of lines (multianewarray). -/
/-- words that the good ones lack: links to nest mates' constructors, the classes of lines -/
def cn_L : List (Nat × String) := [(18, "LentBounds$Bounds"), (25, "LentBounds$Rows"), (32, "LentBounds$Queues"), (39, "LentBounds$Splitter")]
def cn_Z (U : State) : Prop := (∀ x ∈ cn_L, va_Nw (.methodLinkNest "LentBounds" x.1 ⟨x.2, "<init>", "()V"⟩ "LentBounds") U) ∧ va_Nw (.arrayOver (.array .long)) U ∧ va_Nw (.arrayOver (.array .int)) U
theorem cn_over {ty : FieldType} {s U : State} (hW : s.WarmedH U.vm) (h : va_Nw (.arrayOver ty) s) : va_Nw (.arrayOver ty) U := by
  have h1 : (Cond.arrayOver ty).before #[] (s.setVm U.vm) = true := by rw [Cond.arrayOver_setVmC hW.alike]; exact h
  exact h1
theorem cn_Z.moved {s U : State} (hW : s.WarmedH U.vm) (h : cn_Z s) : cn_Z U := ⟨fun x hx => va_Nw.warmM hW (h.1 x hx), cn_over hW h.2.1, cn_over hW h.2.2⟩
def cn_P (D : va_G) (cl : List vw_C) (tys : List (ClassId × FieldType)) (w : va_W) (sz : Nat) (as : List Value) : Array Value → State → Prop :=
  va_Pc as (fun U => U.heap.size = sz ∧ va_P D cl w U.heap ∧ va_K D cl tys U ∧ va_D (fun _ => True) w ∧ cn_Z U)
def cn_M {σ : Type} (l : Launch) (y : MethodName) (wz : List Cond) (rm : Room) (D : va_G) (cl : List vw_C) (tys : List (ClassId × FieldType)) (w0 : va_W) (wd : σ → va_W) (as : List Value) (post : σ → Prop) (mc ms : Nat) : Prop :=
  ∀ sz : Nat, Met l y wz rm (cn_P D cl tys w0 sz as) (va_Qv post (ct_B D cl tys wd (va_A w0 sz)) (va_A w0 sz)) mc ms (va_A w0 sz)
theorem cn_blind {D : va_G} {cl : List vw_C} {tys : List (ClassId × FieldType)} {w : va_W} {sz : Nat} {as : List Value} : FrameBlind (cn_P D cl tys w sz as) := fun a U g mk q => by
  obtain ⟨q0, q1, qP, qK, qD, qZ⟩ := q
  exact ⟨q0, q1, qP, va_K.moved (u := U) (U := U.calling g mk a) (Vm.Alike.refl U.vm) qK, qD, qZ.moved (s := U) (U := U.calling g mk a) (State.WarmedH.refl U)⟩
theorem cn_outer (cA : ClassId) (N h : Nat) : ∀ i, Jvm.Free.Multi.outerC cA N h i = arrV cA N (fun j => va_rf (if j < i then some (h + 1 + j) else none))
  | 0 => by
    show ({ cls := cA, slots := Array.replicate N .null, vm := .none } : Cell) = _
    rw [arrV_new]
    congr 1
  | i + 1 => by
    show (Jvm.Free.Multi.outerC cA N h i).setSlot i (.ref (h + 1 + i)) = _
    rw [cn_outer cA N h i, arrV_store]
    congr 1
    funext j
    unfold updV
    by_cases z : j = i
    · subst z
      rw [if_pos rfl, if_pos (by omega)]
      rfl
    · rw [if_neg z]
      dsimp only
      by_cases z2 : j < i
      · rw [if_pos z2, if_pos (by omega)]
      · rw [if_neg z2, if_neg (by omega)]
section Cn
variable {p : Program} {l : Launch} {e : Env} {R : Room} {s : State} {m : MethodId} {args : Array Value} {below : List Frame} {meth : Method} {c : Code} {H : Heap} {locs : List Loc} {cells slots : Nat} {Q : State → Prop}
variable {cc bytes : ByteArray} {pc maxL nL n index mc ms : Nat} {ret : Option FieldType} {Ts : List Cond} {own C host : String} {a : Addr} {As : List Value} {ls : Array Slot} {rest st0 : List Value} {D : va_G} {cl : List vw_C} {A : Nat → Prop} {tys : List (ClassId × FieldType)} {H0 : Heap} {σ : Type} {wd : σ → va_W} {S : σ} {y : MethodName} {wz : List Cond} {rm : Room} {w0 w1 w2 ws ws2 : va_W}
theorem cn_RA {U : State} {ty : FieldType} {c1 c2 : ClassId} (hn : ∀ C, ty ≠ .object C) (h1 : va_RA U c1 ty) (h2 : va_RA U c2 ty) : c1 = c2 := by
  cases ty with
  | object C => exact absurd rfl (hn C)
  | _ => exact Option.some.inj (Eq.trans (Eq.symm h1) h2)
theorem wo_newa (hexec : p.tables.exec = Jvm.exec) (hb : c.code = cc) {atype : ArrayType} (harr : (Cond.arrayClass (newarray.typeOf atype)).before args s = true) {ty : FieldType} (hty : newarray.typeOf atype = ty) (hnot : ∀ C, ty ≠ .object C) (hK : va_K D cl tys s) (hw : wo_w D cl A H0 ws H locs) (hA : ∀ q, H0.size ≤ q → A q) (t0 : Nat) {cA : ClassId} (ht : tys[t0]? = some (cA, ty))
    {N : Nat} {a0 : vp_A} (ha : ∀ cA : ClassId, vp_cell cA a0 = arrV cA N (fun _ => defaultValue ty)) (hN : N < 2 ^ 31) (hbytes : N * componentBytes ty ≤ 536870912) (hf : cells + 1 ≤ R.cells ∧ slots + N ≤ R.slots) (hdg : decode cc pc = .ok (.newarray atype, 2))
    (kk : ∀ (q : Nat) (H1 : Heap), wo_w D cl A H0 (ws ++ [(q, .inl (cA, a0))]) H1 locs → W p l e R s m args below meth c H1 locs (cells + 1) (slots + N) Q (F0 m (pc + 2) ls (.ref q :: rest))) : W p l e R s m args below meth c H locs cells slots Q (F0 m pc ls (.int (nI N) :: rest)) := by
  refine va_newa hexec hb harr hty hK hw.1 hw.2.1 hw.2.2 hA ha (n := nI N) (nI_pos hN) (nI_clamp hN) hbytes hf.1 hf.2 hdg (fun q cB H1 hK1 hP1 hD1 hS1 => ?_)
  have h1 : (tys ++ [(cB, ty)])[tys.length]? = some (cB, ty) := by rw [List.getElem?_append_right (Nat.le_refl _), Nat.sub_self]; rfl
  have e1 : cB = cA := cn_RA hnot (hK1.2 _ _ h1).2 (hK.2 _ _ ht).2
  subst e1
  exact kk q H1 ⟨hP1, hD1, hS1⟩
theorem wo_mna (hexec : p.tables.exec = Jvm.exec) (hb : c.code = cc) {ty : FieldType} (hown : s.vm.findClass own = some m.cls) (hclink : (Cond.classLink own index ("[" ++ (FieldType.array ty).toString)).before args s = true) (hover : va_Nw (.arrayOver (.array ty)) s) (harr : (Cond.arrayClass ty).before args s = true) (hnot : ∀ C, ty ≠ .object C)
    (hK : va_K D cl tys s) (hw : wo_w D cl A H0 ws H locs) (hA : ∀ q, H0.size ≤ q → A q) (t0 t1 : Nat) {cA cy : ClassId} (ht0 : tys[t0]? = some (cA, .array ty)) (ht1 : tys[t1]? = some (cy, ty)) {N K : Nat} {z : vp_A} (hN : N < 2 ^ 31) (hKn : K < 2 ^ 31)
    (hb1 : N * 4 ≤ 536870912) (hb2 : K * componentBytes ty ≤ 536870912) (hb3 : K ≤ 536870912) (hdf : fits ty (defaultValue ty) = true) (hdd : (defaultValue ty).isDefault = true) (hf : cells + (1 + N) ≤ R.cells ∧ slots + (N + N * K) ≤ R.slots) (hz : ∀ c : ClassId, vp_cell c z = arrV c K (fun _ => defaultValue ty)) (hdg : decode cc pc = .ok (.multianewarray index 2, 4))
    (kk : ∀ (q : Nat) (H1 : Heap), wo_w D cl A H0 (ws ++ ((q, .inl (cA, N, .inr (.inr (.inr (.inr (fun i => if i < N then some (q + 1 + i) else none)))))) :: (List.range N).map (fun i => (q + 1 + i, .inl (cy, z))))) H1 locs →
      W p l e R s m args below meth c H1 locs (cells + (1 + N)) (slots + (N + N * K)) Q (F0 m (pc + 4) ls (.ref q :: rest))) : W p l e R s m args below meth c H locs cells slots Q (F0 m pc ls (.int (nI K) :: .int (nI N) :: rest)) := by
  intro T hT Xs
  have eN := nI_clamp hN
  have eK := nI_clamp hKn
  subst hb
  obtain ⟨vm1, c1, comp, -, fA, fC, hO, -, X2, step⟩ := Xs.multianewarray2F hexec hown hclink (show (Cond.arrayOver (.array ty)).before args s = true from hover) harr (g := F0 m pc ls (.int (nI K) :: .int (nI N) :: rest)) rfl hdg rfl (nI_pos hN) (nI_pos hKn) (by rw [eN]; exact hb1) (by rw [eK]; exact hb2) (by rw [eK]; exact hb3) hdf hdd (by rw [eN]; exact hf.1) (by rw [eN, eK]; exact hf.2)
  rw [eN, eK] at X2 step
  have q0 : va_RA s c1 (.array ty) := fA
  have q1 : va_RA s comp ty := by cases ty with
    | object C => exact absurd rfl (hnot C)
    | _ => exact fC
  have e0 := cn_RA (fun C h => by cases h) q0 (hK.2 _ _ ht0).2
  have e1 := cn_RA hnot q1 (hK.2 _ _ ht1).2
  subst e0; subst e1
  generalize hF : Jvm.Free.Multi.fill (T.setVm vm1) c1 comp N K (defaultValue ty) N = F at X2 step
  have hTh : (T.setVm vm1).heap = H := hT
  obtain ⟨f1, f2, -, -⟩ := Jvm.Free.Multi.fill_facts (T.setVm vm1) c1 comp N K (defaultValue ty) N
  rw [hF, hTh] at f1 f2
  have hold : ∀ x : Nat, x < H.size → F.heap[x]? = H[x]? := fun x hx => by
    have h9 := Jvm.Free.Multi.fill_old (T.setVm vm1) c1 comp N K (defaultValue ty) (a := x) (by rw [hTh]; exact hx) N
    rw [hF, hTh] at h9
    exact h9
  have hrow : ∀ j : Nat, j < N → F.heap[H.size + 1 + j]? = some (vp_cell comp z) := fun j hj => by
    have h9 := Jvm.Free.Multi.fill_inner (T.setVm vm1) c1 comp N K (defaultValue ty) N j hj
    rw [hF, hTh] at h9
    rw [h9, hz]
    exact congrArg some (arrV_new comp K (defaultValue ty))
  rw [cn_outer] at f2
  have key : ∀ (k : Nat) (q : Nat × va_E), ((H.size, (.inl (c1, N, .inr (.inr (.inr (.inr (fun i => if i < N then some (H.size + 1 + i) else none))))) : va_E)) :: (List.range N).map (fun i => (H.size + 1 + i, (.inl (comp, z) : va_E))))[k]? = some q → q.1 = H.size + k ∧ va_at D cl q F.heap := by
    intro k q hk
    cases k with
    | zero =>
      cases hk
      exact ⟨rfl, f2⟩
    | succ k =>
      rw [List.getElem?_cons_succ, List.getElem?_map] at hk
      obtain ⟨i, hi, rfl⟩ := Option.map_eq_some_iff.mp hk
      obtain ⟨h8, h9⟩ := List.getElem?_eq_some_iff.mp hi
      rw [List.getElem_range] at h9
      rw [List.length_range] at h8
      subst h9
      exact ⟨by show H.size + 1 + k = H.size + (k + 1); omega, hrow k h8⟩
  have hw2 : wo_w D cl A H0 (ws ++ ((H.size, .inl (c1, N, .inr (.inr (.inr (.inr (fun i => if i < N then some (H.size + 1 + i) else none)))))) :: (List.range N).map (fun i => (H.size + 1 + i, .inl (comp, z))))) F.heap locs := by
    refine ⟨(hw.1.kept (fun k q hq => hold q.1 (hw.1 k q hq).lt)).app (fun k q hq => (key k q hq).2), ?_, ?_⟩
    · refine hw.2.1.app ⟨fun i j p q hi hj e9 => ?_, fun k q hq => hA _ ?_⟩ (fun i j p q hi hj e9 => ?_)
      · have h1 := (key i p hi).1
        have h2 := (key j q hj).1
        omega
      · have h1 := (key k q hq).1
        have h2 := hw.2.2.1
        omega
      · have h1 := (key j q hj).1
        have h2 := (hw.1 i p hi).lt
        omega
    · exact ⟨Nat.le_trans hw.2.2.1 (by rw [f1]; omega), fun x h1 h2 => by rw [hold x (Nat.lt_of_lt_of_le h1 hw.2.2.1)]; exact hw.2.2.2.1 x h1 h2, hw.2.2.2.2⟩
  obtain ⟨t, r1, r2⟩ := kk H.size F.heap hw2 F rfl (by rw [Nat.add_assoc, Nat.add_assoc] at X2; exact X2)
  exact ⟨t, step t (by rw [hT]; exact r1), r2⟩
theorem wo_new {T : u_T} {N ci : Nat} (hexec : p.tables.exec = Jvm.exec) (hb : c.code = cc) (hts : ∀ w ∈ Ts, w.before args s = true) (hin : ∀ w ∈ u_ws C T N, w ∈ Ts) (ty : Nat → FieldType) (hty : ∀ k, k < N → parseFieldDescriptor (T k).2.2.1 = some (ty k)) (hown : s.vm.findClass own = some m.cls) (hcl : (Cond.classLink own index C).before args s = true) (hinst : (Cond.instantiable C N).before args s = true) (hini : (Cond.initialized C).before args s = true)
    (hK : va_K D cl tys s) (hw : wo_w D cl A H0 ws H locs) (hA : ∀ q, H0.size ≤ q → A q) (hc : cl[ci]? = some (C, T, N)) {fs : List Value} (hfs : ∀ j, j < N → defaultValue (ty j) = vp_V fs j) (hf : cells + 1 ≤ R.cells ∧ slots + N ≤ R.slots) (hdg : decode cc pc = .ok (.new index, 3))
    (kk : ∀ (q : Nat) (H1 : Heap), wo_w D cl A H0 (ws ++ [(q, .inr (ci, fs))]) H1 locs → W p l e R s m args below meth c H1 locs (cells + 1) (slots + N) Q (F0 m (pc + 3) ls (.ref q :: rest))) : W p l e R s m args below meth c H locs cells slots Q (F0 m pc ls rest) :=
  va_new hexec hb hts hin ty hty hown hcl hinst hini hK hw.1 hw.2.1 hw.2.2 hA hc hfs hf.1 hf.2 hdg (fun q H1 h1 h2 h3 => kk q H1 ⟨h1, h2, h3⟩)
theorem wo_putF {T : u_T} {N ci : Nat} {ref : String} (hexec : p.tables.exec = Jvm.exec) (hb : c.code = cc) (hts : ∀ w ∈ Ts, w.before args s = true) (hin : ∀ w ∈ u_ws C T N, w ∈ Ts) (ty0 : Nat → FieldType) (hty : ∀ k, k < N → parseFieldDescriptor (T k).2.2.1 = some (ty0 k)) (hnm : ∀ a, a < N → ∀ b, b < N → a ≠ b → (T a).2.1 ≠ (T b).2.1) (hown : s.vm.findClass own = some m.cls) (hK : va_K D cl tys s) (hw : wo_w D cl A H0 ws H locs) (q0 : Nat) {fs : List Value} (he : ws[q0]? = some (a, .inr (ci, fs))) (hc : cl[ci]? = some (C, T, N)) (k : Nat) (hk : k < N) (hlink : (Cond.fieldLink own index ref (T k).2.1 (T k).2.2.1).before args s = true) (hsame : ∀ x, s.fieldFound? (T k).1 (T k).2.1 (T k).2.2.1 = some x → s.fieldFound? ref (T k).2.1 (T k).2.2.1 = some x) (hfin : (T k).2.2.2 = true) (hin2 : meth.name = "<init>") (hdecl : (T k).1 = own) {ty : FieldType} {v : Value} (hd : parseFieldDescriptor (T k).2.2.1 = some ty) (hn : narrow ty v = v) (hfit : fits ty v = true) (hl : k < fs.length)
    (hset : ws.set q0 (a, .inr (ci, fs.set k v)) = ws2) (hdg : decode cc pc = .ok (.putfield index, 3)) (kk : ∀ (H1 : Heap) (locs1 : List Loc), wo_w D cl A H0 ws2 H1 locs1 → W p l e R s m args below meth c H1 locs1 cells slots Q (F0 m (pc + 3) ls rest)) : W p l e R s m args below meth c H locs cells slots Q (F0 m pc ls (v :: .ref a :: rest)) := by
  subst hset
  exact va_putF hexec hb hts hin ty0 hty hnm hown hK hw.1 hw.2.1 hw.2.2 q0 he hc k hk hlink hsame hfin hin2 hdecl hd hn hfit hl hdg (fun H1 locs1 h1 h2 h3 => kk H1 locs1 ⟨h1, h2, h3⟩)
theorem cn_of {as : List Value} {post : σ → Prop} (hy : plainName y.cls = true) (hy2 : y.name = "<init>") (hn : (lg_sl as).length ≤ maxL)
    (body : ∀ (p : Program) (e : Env) (s : State) (m : MethodId) (below : List Frame) (meth : Method) (c : Code) (A : Nat → Prop) (ls : Array Slot), p.tables.exec = Jvm.exec → c.code = cc → meth.sig.returnType = none → c.maxLocals = maxL → (∀ w ∈ wa_T, w.before as.toArray s = true) → s.vm.findClass y.cls = some m.cls → meth.locks = false → va_K D cl tys s → (∀ q : Nat, s.heap.size ≤ q → A q) → wo_w D cl A s.heap w0 s.heap [] → lv_has ls maxL (lv_args 0 as) → meth.name = "<init>" → cn_Z s →
      W p l e rm s m as.toArray below meth c s.heap [] 0 0 (MQ below (va_Qv post (ct_B D cl tys wd A) A) as.toArray s mc ms A) (F0 m 0 ls [])) : cn_M l y (Cond.code y cc maxL none :: wa_T) rm D cl tys w0 wd as post mc ms := by
  intro sz
  refine Met.ofW (cc := cc) (maxL := maxL) (ret := none) hy rfl ?_
  intro p e s m args below meth c s₁ B hml hv
  obtain ⟨rfl, hsz, hP, hK, hD0, hZ⟩ := hv
  subst hsz
  have hl := lv_entry as (n := maxL) hn
  rw [lg_entry_eq]
  exact body p e s m below meth c _ _ B.exec B.bytes B.returns hml (fun w h => atoms_spec (ws := Cond.code y cc maxL none :: wa_T) B.pre w (List.mem_cons_of_mem _ h)) (findClass_of_methodNamed B.named) B.notSynchronized hK (fun q h => Or.inr h) ⟨hP, hD0.self, va_S.rf⟩ hl (by rw [(name_of_methodNamed B.named B.method).1]; exact hy2) hZ
theorem cn_ret {post : σ → Prop} (hexec : p.tables.exec = Jvm.exec) (hb : c.code = cc) (hr : meth.sig.returnType = none) (hlocks : meth.locks = false) (hK : va_K D cl tys s) (hw : wo_w D cl A s.heap (wd S) H locs) (hp : post S) (hdg : decode cc pc = .ok (.return_, 1)) :
    W p l e R s m args below meth c H locs cells slots (MQ below (va_Qv post (ct_B D cl tys wd A) A) args s cells slots A) (F0 m pc ls []) :=
  W.vret hexec hb hr (fun t ht hW => ⟨⟨S, rfl, hp, by rw [ht]; exact hw.1, va_K.moved hW.alike hK, hw.2.1⟩, hw.2.2.F ht⟩) hw.2.2.2.2 hdg hlocks
theorem cn_pre (hK : va_K D cl tys s) (hZ : cn_Z s) (hw : wo_w D cl A H0 (w1 ++ (w0 ++ w2)) H locs) (as : List Value) : PreS s H (cn_P D cl tys w0 H.size as) as :=
  ⟨cn_blind, fun U hU hW => ⟨rfl, by rw [hU], by rw [hU]; exact (fr_part hw).1, va_K.moved hW.alike hK, (fr_part hw).2.1.weaken (fun _ _ _ _ => trivial), hZ.moved hW⟩⟩
theorem fw_N {post : σ → Prop} {ar : Array Value} (hw : wo_w D cl A H0 (w1 ++ (w0 ++ w2)) H locs) (hA : ∀ q, H0.size ≤ q → A q)
    (hr : va_Run p l e R s m args below meth c H locs cells slots mc ms (F0 m pc ls st0) rest (va_Qv post (ct_B D cl tys wd (va_A w0 H.size)) (va_A w0 H.size) ar) (va_A w0 H.size))
    (kk : ∀ (u : σ) (H1 : Heap) (locs1 : List Loc), post u → wo_w D cl A H0 (w1 ++ (wd u ++ w2)) H1 locs1 → W p l e R s m args below meth c H1 locs1 (cells + mc) (slots + ms) Q (F0 m (pc + 3) ls rest)) : W p l e R s m args below meth c H locs cells slots Q (F0 m pc ls st0) := by
  have hF := fr_free hw hA
  refine va_callv hr hw.2.2 (fun q _ h => hF q h) hF (fun u t H1 locs1 ht hvm hp hB hz1 hk1 hS => ?_)
  obtain ⟨hP1, hK1, hD1⟩ := hB
  rw [ht] at hP1
  exact kk u H1 locs1 hp (fr_call hw hF hP1 hD1 hk1 hS)
/-- a world in another order -/
theorem wo_perm (hw : wo_w D cl A H0 ws H locs) (is : List Nat) (hn : va_nd is = true) (hs : is.map (fun i => ws[i]?) = ws2.map some) : wo_w D cl A H0 ws2 H locs := by
  refine ⟨fun k q hk => ?_, hw.2.1.sub is hn hs, hw.2.2⟩
  have h1 : (is.map (fun i => ws[i]?))[k]? = some (some q) := by rw [hs, List.getElem?_map, hk]; rfl
  rw [List.getElem?_map] at h1
  obtain ⟨i, -, hi⟩ := Option.map_eq_some_iff.mp h1
  exact hw.1 i q hi
end Cn
