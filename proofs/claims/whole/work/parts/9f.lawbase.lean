/-! THE CLAIM OUT OF ONE WALK OF THE LAW'S BODY. Your part is whole_start (and what it stands on); all else here is the same for every law, but numbers. -/
def R_law : String := "LentBoundsLaw"
def lw_P (b : Addr) (xs : List Int32) (args : Array Value) (s : State) : Prop := args = #[.ref b] ∧ s.IntsAt b xs ∧ xs.length ≤ 3584 ∧ (Jvm.Cond.and given_1 narrow_1).before args s = true
def lw_Q (_ : Array Value) (s : State) (o : Outcome) (t : State) : Prop := o = .returned (some (.int 1)) ∧ Framed s o t [] 601024 7293033
def lw_Z (below : List Frame) (a : Array Value) (s : State) : State → Prop := fun t => ∃ o, t.status = .running ∧ Ended t below o ∧ lw_Q a s o t
/-- the law's own end, with 1 on the stack, nothing written that was there before, its room as the claim has it -/
theorem lw_ret {p : Program} {l : Launch} {e : Env} {s : State} {m : MethodId} {below : List Frame} {meth : Method} {c : Code} {b : Nat} (hx : p.tables.exec = Jvm.exec) (hb : c.code = code) (hr : meth.sig.returnType = ret) (hlocks : meth.locks = false) {pc : Nat} {H : Heap} {ls : Array Slot} (hdg : decode code pc = .ok (.ireturn, 1)) : W p l e room_1 s m #[Value.ref b] below meth c H [] 601024 7293033 (lw_Z below #[Value.ref b] s) (F0 m pc ls [.int 1]) := by
  intro T hT X
  obtain ⟨fs, hret, hrun, hended, hW, hframe⟩ := X.leave (v := some (.int 1)) (hlocks := hlocks) (fun h => by rw [hr] at h; cases h)
  have hmeth' : T.vm.method? m = some meth := X.method'
  refine ⟨T.setFrames fs, ?_, .returned (some (.int 1)), hrun, hended, rfl, ⟨_, rfl⟩, hW, hframe⟩
  jvm_step X.here [X.here.top, hx, hb, hdg, hmeth', hr, ret, narrow_b1]
  (try refine ⟨rfl, ?_⟩); (try refine ⟨rfl, ?_⟩)
  first | (intro acts; rw [hret _ acts rfl rfl rfl]) | rw [hret _ _ rfl rfl rfl]
  exact Steps.refl _
/-- what holds at the law's entry: the machine, the code, the tables' words (any of lw_tbl by 'hts w (by decide +kernel)'), the script of L ints xs at the cell b, what the Statement gives of the start (any of its parts by flat_of_before) -/
def lw_At (p : Program) (s : State) (m : MethodId) (meth : Method) (c : Code) (b L : Nat) (xs : Nat → Int32) : Prop :=
  p.tables.exec = Jvm.exec ∧ c.code = code ∧ meth.sig.returnType = ret ∧ c.maxLocals = 8 ∧ s.vm.findClass R_law = some m.cls ∧ (∀ w ∈ lw_tbl, w.before #[Value.ref b] s = true) ∧ va_X b L xs s s.heap ∧ b < s.heap.size ∧ meth.locks = false ∧ (Jvm.Cond.and given_1 narrow_1).before #[Value.ref b] s = true
/-! The law: worlds side by side, the context, rows of the script and of calls. -/
def lwA (s : State) : Nat → Prop := fun q => s.heap.size ≤ q
/-- a long of two ints of the script -/
def lj (x y : Int32) : Int64 := (x.toInt64 <<< ((nI 32).toInt64 &&& 63)) ||| (y.toInt64 &&& 4294967295)
def wO (ca : Nat → ClassId) (oa : Nat) (f : Nat → Int64) : va_W := [(oa, .inl (ca 1, 1, .inr (.inl f)))]
def wL (ca : Nat → ClassId) (ad md : Nat → Nat) (oa : Nat) (S M : sSt) (f : Nat → Int64) : va_W := wc ca ad S ++ (wO ca oa f ++ wq ca md M)
section Lw1
variable {D : va_G} {cl : List vw_C} {A : Nat → Prop} {H0 H : Heap} {locs : List Loc} {ca : Nat → ClassId} {ad md : Nat → Nat} {oa : Nat} {S M : sSt} {f : Nat → Int64}
theorem wl_x (h : wo_w D cl A H0 (wL ca ad md oa S M f) H locs) : wo_w D cl A H0 ([] ++ (wc ca ad S ++ (wO ca oa f ++ wq ca md M))) H locs := h
theorem wl_xb (h : wo_w D cl A H0 ([] ++ (wc ca ad S ++ (wO ca oa f ++ wq ca md M))) H locs) : wo_w D cl A H0 (wL ca ad md oa S M f) H locs := h
theorem wl_me : wL ca ad md oa S M f = (wc ca ad S ++ wO ca oa f) ++ (wq ca md M ++ []) := by
  unfold wL
  rw [List.append_nil, List.append_assoc]
theorem wl_m (h : wo_w D cl A H0 (wL ca ad md oa S M f) H locs) : wo_w D cl A H0 ((wc ca ad S ++ wO ca oa f) ++ (wq ca md M ++ [])) H locs := by
  rw [← wl_me]; exact h
theorem wl_mb (h : wo_w D cl A H0 ((wc ca ad S ++ wO ca oa f) ++ (wq ca md M ++ [])) H locs) : wo_w D cl A H0 (wL ca ad md oa S M f) H locs := by
  rw [wl_me]; exact h
theorem wl_he : wL ca ad md oa S M f = [] ++ (wh ca ad oa (S, f) ++ wq ca md M) := by
  show wc ca ad S ++ (wO ca oa f ++ wq ca md M) = (wc ca ad S ++ wO ca oa f) ++ wq ca md M
  rw [List.append_assoc]
theorem wl_h (h : wo_w D cl A H0 (wL ca ad md oa S M f) H locs) : wo_w D cl A H0 ([] ++ (wh ca ad oa (S, f) ++ wq ca md M)) H locs := by
  rw [← wl_he]; exact h
theorem wl_hb (h : wo_w D cl A H0 ([] ++ (wh ca ad oa (S, f) ++ wq ca md M)) H locs) : wo_w D cl A H0 (wL ca ad md oa S M f) H locs := by
  rw [wl_he]; exact h
end Lw1
section Lw2
variable {p : Program} {l : Launch} {e : Env} {R : Room} {s : State} {m : MethodId} {args : Array Value} {below : List Frame} {meth : Method} {c : Code} {H : Heap} {locs : List Loc} {cells slots : Nat} {Q : State → Prop}
variable {cc bytes : ByteArray} {pc maxL nL n index : Nat} {ret : Option FieldType} {Ts : List Cond} {own C : String} {b : Addr} {As : List Value} {ls : Array Slot} {rest st0 : List Value} {D : va_G} {cl : List vw_C} {A : Nat → Prop} {tys : List (ClassId × FieldType)} {H0 : Heap} {σ : Type} {wd : σ → va_W} {S : σ} {y : MethodName} {wz : List Cond} {rm : Room} {w1 w2 ws : va_W}
theorem ws_ld (hexec : p.tables.exec = Jvm.exec) (hb : c.code = cc) {b L : Nat} {xs : Nat → Int32} (hX : va_X b L xs s H0) (hbl : b < H0.size) (hbA : ¬ A b) (hw : wo_w D cl A H0 ws H locs) {j : Nat} (hj : j < L) (hL : L ≤ 3584) (hdg : decode cc pc = .ok (.iaload, 1))
    (kk : W p l e R s m args below meth c H locs cells slots Q (F0 m (pc + 1) ls (.int (xs j) :: rest))) : W p l e R s m args below meth c H locs cells slots Q (F0 m pc ls (.int (nI j) :: .ref b :: rest)) := by
  refine va_sld hexec hb hX hbl hbA hw.2.2 (vp_in_nI hj (by omega)) hdg ?_
  rw [nI_clamp (by omega)]
  exact kk
theorem ws_len (hexec : p.tables.exec = Jvm.exec) (hb : c.code = cc) {b L : Nat} {xs : Nat → Int32} (hX : va_X b L xs s H0) (hbl : b < H0.size) (hbA : ¬ A b) (hw : wo_w D cl A H0 ws H locs) (hdg : decode cc pc = .ok (.arraylength, 1))
    (kk : W p l e R s m args below meth c H locs cells slots Q (F0 m (pc + 1) ls (.int (nI L) :: rest))) : W p l e R s m args below meth c H locs cells slots Q (F0 m pc ls (.ref b :: rest)) := va_slen hexec hb hX hbl hbA hw.2.2 hdg kk
/-- calls over a part of the world -/
theorem lx_I {post : Int32 → σ → Prop} (hM : ct_I l y wz rm D cl tys wd S (.ref b :: As) post) (X : CallFix p m c cc nL s args Ts own) (cw : CallW R s args own C index y bytes maxL ret wz rm 0 0 n) (hK : va_K D cl tys s) (hw : wo_w D cl A H0 (w1 ++ (wd S ++ w2)) H locs) (hA : ∀ q, H0.size ≤ q → A q) (q0 : Nat) {ci : Nat} {r0 : vw_C} {fs : List Value} (hc : cl[ci]? = some r0) (hC : r0.1 = C) (he : (wd S)[q0]? = some (b, .inr (ci, fs))) (hn : As.length = n) (hsize : ls.size = nL) (hst : st0 = As.reverse ++ .ref b :: rest) (hrm : (rest.map fun v => v.category).sum ≤ 8) (hdg : decode cc pc = .ok (.invokevirtual index, 3)) (hf : cells + 0 ≤ R.cells ∧ slots + 0 ≤ R.slots)
    (kk : ∀ (r : Int32) (S2 : σ) (H1 : Heap) (locs1 : List Loc), post r S2 → wo_w D cl A H0 (w1 ++ (wd S2 ++ w2)) H1 locs1 → W p l e R s m args below meth c H1 locs1 cells slots Q (F0 m (pc + 3) ls (.int r :: rest))) : W p l e R s m args below meth c H locs cells slots Q (F0 m pc ls st0) := by
  subst hC
  exact fw_I hw hA (va_runV (As := As) (rest := rest) X (hM H.size) cw (wo_preV hK (fr_part hw) q0 hc he As) rfl hn hsize hst (lv_room hrm) hdg hf) kk
theorem lx_L {post : Int64 → σ → Prop} (hM : ct_L l y wz rm D cl tys wd S (.ref b :: As) post) (X : CallFix p m c cc nL s args Ts own) (cw : CallW R s args own C index y bytes maxL ret wz rm 0 0 n) (hK : va_K D cl tys s) (hw : wo_w D cl A H0 (w1 ++ (wd S ++ w2)) H locs) (hA : ∀ q, H0.size ≤ q → A q) (q0 : Nat) {ci : Nat} {r0 : vw_C} {fs : List Value} (hc : cl[ci]? = some r0) (hC : r0.1 = C) (he : (wd S)[q0]? = some (b, .inr (ci, fs))) (hn : As.length = n) (hsize : ls.size = nL) (hst : st0 = As.reverse ++ .ref b :: rest) (hrm : (rest.map fun v => v.category).sum ≤ 8) (hdg : decode cc pc = .ok (.invokevirtual index, 3)) (hf : cells + 0 ≤ R.cells ∧ slots + 0 ≤ R.slots)
    (kk : ∀ (r : Int64) (S2 : σ) (H1 : Heap) (locs1 : List Loc), post r S2 → wo_w D cl A H0 (w1 ++ (wd S2 ++ w2)) H1 locs1 → W p l e R s m args below meth c H1 locs1 cells slots Q (F0 m (pc + 3) ls (.long r :: rest))) : W p l e R s m args below meth c H locs cells slots Q (F0 m pc ls st0) := by
  subst hC
  exact fw_L hw hA (va_runV (As := As) (rest := rest) X (hM H.size) cw (wo_preV hK (fr_part hw) q0 hc he As) rfl hn hsize hst (lv_room hrm) hdg hf) kk
/-- a helper of the law, with its table -/
theorem lh_I {post : Int32 → σ → Prop} {hh : List (Nat × Nat × Nat × Nat)} (hM : ∀ sz : Nat, Met l y (Cond.codeWith y bytes maxL ret hh :: wa_T) rm (tx_P D cl tys (wd S) sz As) (va_Qi post (ct_B D cl tys wd (va_A (wd S) sz)) (va_A (wd S) sz)) 1 6 (va_A (wd S) sz)) (X : CallFix p m c cc nL s args wa_T own)
    (hz : rm.cells = 1 ∧ rm.slots = 6 ∧ rm.frames + 1 ≤ R.frames ∧ 8 + (maxL + 11) + rm.locals ≤ R.locals) (hcw : Cond.codeWith y bytes maxL ret hh ∈ wa_T) (hini : Cond.initialized y.cls ∈ wa_T) (hy : y.cls ≠ "java/lang/invoke/MethodHandle" ∧ y.cls ≠ "java/lang/invoke/VarHandle") (hlen : (parseMethodDescriptor y.desc).map (fun d => d.parameters.length) = some As.length) (hl : Cond.methodLink own index y ∈ wa_T) (hstt : Cond.static y ∈ wa_T)
    (hK : va_K D cl tys s) (hZ : ex_Z A s s.heap) (hw : wo_w D cl A s.heap (w1 ++ (wd S ++ w2)) H locs) (hA : ∀ q, s.heap.size ≤ q → A q) (hsize : ls.size = nL) (hst : st0 = As.reverse ++ rest) (hrm : (rest.map fun v => v.category).sum ≤ 8) (hdg : decode cc pc = .ok (.invokestatic index, 3)) (hf : cells + 1 ≤ R.cells ∧ slots + 6 ≤ R.slots)
    (kk : ∀ (r : Int32) (S2 : σ) (H1 : Heap) (locs1 : List Loc), post r S2 → wo_w D cl A s.heap (w1 ++ (wd S2 ++ w2)) H1 locs1 → W p l e R s m args below meth c H1 locs1 (cells + 1) (slots + 6) Q (F0 m (pc + 3) ls (.int r :: rest))) : W p l e R s m args below meth c H locs cells slots Q (F0 m pc ls st0) :=
  fw_I hw hA (tx_runSW (As := As) (rest := rest) X (hM H.size) hz (pay_in X.2.2.2.2 (wa_code hcw)) List.mem_cons_self (X.2.2.2.2 _ hcw) (X.2.2.2.2 _ hini) hy hlen (X.2.2.2.2 _ hl) (X.2.2.2.2 _ hstt) (tx_pre hK hZ hw hA As) hsize hst hrm hdg hf) kk
end Lw2
/-- what stands all along the law -/
def LC (p : Program) (l : Launch) (s : State) (m : MethodId) (meth : Method) (c : Code) (dC : Nat → ClassId) (dI : Nat → Nat → Nat) (ca : Nat → ClassId) (b L : Nat) (xs : Nat → Int32) : Prop :=
  p.tables.exec = Jvm.exec ∧ c.code = code ∧ meth.sig.returnType = ret ∧ c.maxLocals = 8 ∧ s.vm.findClass "LentBoundsLaw" = some m.cls ∧ (∀ w ∈ wa_T, w.before #[Value.ref b] s = true) ∧ va_X b L xs s s.heap ∧ b < s.heap.size ∧ meth.locks = false ∧ va_K (dC, dI) vwCl (tyl ca) s ∧ ex_Z (lwA s) s s.heap ∧ L ≤ 3584 ∧ l.stackTraces = false
/-- the locals at the loop's head and at its step -/
abbrev lwl (b oa i : Nat) (ad md : Nat → Nat) : List (Nat × Value) := [(4, .int (nI i)), (3, .ref oa), (2, .ref (md 0)), (1, .ref (ad 0)), (0, .ref b)]
/-- the loop goes on from its step -/
def lw_N (p : Program) (l : Launch) (e : Env) (s : State) (m : MethodId) (below : List Frame) (meth : Method) (c : Code) (dC : Nat → ClassId) (dI : Nat → Nat → Nat) (ca : Nat → ClassId) (ad md : Nat → Nat) (oa b i cells slots : Nat) (Q : State → Prop) : Prop :=
  ∀ (S M : sSt) (f : Nat → Int64) (H : Heap) (locs : List Loc) (ls : Array Slot), RE S M → wo_w (dC, dI) vwCl (lwA s) s.heap (wL ca ad md oa S M f) H locs → lv_has ls 8 (lwl b oa i ad md) → W p l e room_1 s m #[Value.ref b] below meth c H locs (cells + 1) (slots + 6) Q (F0 m 1184 ls [])
theorem lw_gt {L i : Nat} (hL : L ≤ 3584) (hi : i ≤ L) (h : ¬ nI L - nI 7 < nI i) : i + 7 ≤ L := by
  rw [Int32.lt_iff_toInt_lt, pk_sub_toInt (by omega) (by omega), nI_toInt (by omega)] at h
  omega
