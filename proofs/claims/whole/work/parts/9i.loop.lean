set_option maxHeartbeats 4000000 in
set_option maxRecDepth 100000 in
theorem lw_loop {p : Program} {l : Launch} {e : Env} {s : State} {m : MethodId} {below : List Frame} {meth : Method} {c : Code} {dC : Nat → ClassId} {dI : Nat → Nat → Nat} {ca : Nat → ClassId} {ad md : Nat → Nat} {oa b L : Nat} {xs : Nat → Int32} (C0 : LC p l s m meth c dC dI ca b L xs) : ∀ (n i : Nat), i ≤ L → L < i + 7 * n → ∀ (S M : sSt) (f : Nat → Int64) (H : Heap) (locs : List Loc) (ls : Array Slot) (cells slots : Nat), cells + n ≤ 601024 → slots + 6 * n ≤ 7293033 → RE S M → wo_w (dC, dI) vwCl (lwA s) s.heap (wL ca ad md oa S M f) H locs → lv_has ls 8 (lwl b oa i ad md) → W p l e room_1 s m #[Value.ref b] below meth c H locs cells slots (lw_Z below #[Value.ref b] s) (F0 m 23 ls []) := by
  intro n
  induction n with
  | zero =>
    intro i h1 h2
    exact absurd h2 (by omega)
  | succ n ih =>
    intro i h1 h2 S M f H locs ls cells slots hc hs hR hw hl
    obtain ⟨hx, hb, hr, hml, hown, hts, hX, hbl, hlocks, hK, hZ, hL, htr⟩ := id C0
    have hbA : ¬ lwA s b := Nat.not_le.mpr hbl
    refine lv_iload hx hb dL_law_23 (lv_at hl 0 rfl) ?_
    refine lv_aload_n hx hb dL_law_25 rfl (lv_at hl 4 rfl) ?_
    refine ws_len hx hb hX hbl hbA hw dL_law_26 ?_
    refine lv_bipush (v := nI 7) hx hb dL_law_27 (by decide) ?_
    refine lv_isub hx hb dL_law_29 ?_
    refine lv_icmp_gt (tgt := 1190) hx hb dL_law_30 (by decide) (fun c9 => ?_) (fun c9 => ?_)
    · refine lv_iconst (v := 1) hx hb dL_law_1190 (by decide) ?_
      refine va_forget (fun q hq => hw.2.2.2.2 q hq) ?_
      refine W.widen (k := 601024) (n := 7293033) (by omega) (by omega) ?_
      exact lw_ret hx hb hr hlocks dL_law_1191
    · have hi : i + 7 ≤ L := lw_gt hL h1 c9
      have kk : lw_N p l e s m below meth c dC dI ca ad md oa b i cells slots (lw_Z below #[Value.ref b] s) := fun S M f H locs ls hR hw hl => by
        refine lv_iinc (v := nI (i + 7)) (lv' := lwl b oa (i + 7) ad md) hx hb dL_law_1184 hl (k := 0) rfl (by rw [show Int32.ofInt 7 = nI 7 from by decide]; exact nI_add i 7) (by decide) rfl (fun ls hl => ?_)
        refine lv_goto (tgt := 23) hx hb dL_law_1187 (by decide) ?_
        exact ih (i + 7) (by omega) (by omega) S M f H locs ls (cells + 1) (slots + 6) (by omega) (by omega) hR hw hl
      refine lv_aload_n hx hb dL_law_33 rfl (lv_at hl 4 rfl) ?_
      refine lv_iload hx hb dL_law_34 (lv_at hl 0 rfl) ?_
      refine ws_ld hx hb hX hbl hbA hw (j := i) (by omega) hL dL_law_36 ?_
      refine lv_bipush (v := nI 31) hx hb dL_law_37 (by decide) ?_
      refine lv_iand hx hb dL_law_39 ?_
      refine lv_topi (fun x9 ex9 => ?_)
      clear ex9
      by_cases c_0 : x9 = nI 0
      · subst c_0
        refine lv_tableIn (tgt := 124) hx hb dL_law_40 (by decide) (by decide) rfl (by decide) ?_
        exact lc_weigh C0 hi hR (by omega) (by omega) hw hl kk
      by_cases c_1 : x9 = nI 1
      · subst c_1
        refine lv_tableIn (tgt := 193) hx hb dL_law_40 (by decide) (by decide) rfl (by decide) ?_
        exact lc_bound C0 hi hR (by omega) (by omega) hw hl kk
      by_cases c_2 : x9 = nI 2
      · subst c_2
        refine lv_tableIn (tgt := 371) hx hb dL_law_40 (by decide) (by decide) rfl (by decide) ?_
        exact lc_patient C0 hi hR (by omega) (by omega) hw hl kk
      by_cases c_3 : x9 = nI 3
      · subst c_3
        refine lv_tableIn (tgt := 424) hx hb dL_law_40 (by decide) (by decide) rfl (by decide) ?_
        exact lc_take C0 hi hR (by omega) (by omega) hw hl kk
      by_cases c_4 : x9 = nI 4
      · subst c_4
        refine lv_tableIn (tgt := 505) hx hb dL_law_40 (by decide) (by decide) rfl (by decide) ?_
        exact lc_lend C0 hi hR (by omega) (by omega) hw hl kk
      by_cases c_5 : x9 = nI 5
      · subst c_5
        refine lv_tableIn (tgt := 612) hx hb dL_law_40 (by decide) (by decide) rfl (by decide) ?_
        exact lc_ask C0 hi hR (by omega) (by omega) hw hl kk
      by_cases c_6 : x9 = nI 6
      · subst c_6
        refine lv_tableIn (tgt := 705) hx hb dL_law_40 (by decide) (by decide) rfl (by decide) ?_
        exact lc_deliver C0 hi hR (by omega) (by omega) hw hl kk
      by_cases c_7 : x9 = nI 7
      · subst c_7
        refine lv_tableIn (tgt := 730) hx hb dL_law_40 (by decide) (by decide) rfl (by decide) ?_
        exact lc_lose C0 hi hR (by omega) (by omega) hw hl kk
      by_cases c_8 : x9 = nI 8
      · subst c_8
        refine lv_tableIn (tgt := 755) hx hb dL_law_40 (by decide) (by decide) rfl (by decide) ?_
        exact lc_end C0 hi hR (by omega) (by omega) hw hl kk
      by_cases c_9 : x9 = nI 9
      · subst c_9
        refine lv_tableIn (tgt := 780) hx hb dL_law_40 (by decide) (by decide) rfl (by decide) ?_
        exact lc_vouch C0 hi hR (by omega) (by omega) hw hl kk
      by_cases c_10 : x9 = nI 10
      · subst c_10
        refine lv_tableIn (tgt := 817) hx hb dL_law_40 (by decide) (by decide) rfl (by decide) ?_
        exact lc_share C0 hi hR (by omega) (by omega) hw hl kk
      by_cases c_11 : x9 = nI 11
      · subst c_11
        refine lv_tableIn (tgt := 896) hx hb dL_law_40 (by decide) (by decide) rfl (by decide) ?_
        exact lc_sum C0 hi hR (by omega) (by omega) hw hl kk
      by_cases c_12 : x9 = nI 12
      · subst c_12
        refine lv_tableIn (tgt := 963) hx hb dL_law_40 (by decide) (by decide) rfl (by decide) ?_
        exact lc_row C0 hi hR (by omega) (by omega) hw hl kk
      by_cases c_13 : x9 = nI 13
      · subst c_13
        refine lv_tableIn (tgt := 1000) hx hb dL_law_40 (by decide) (by decide) rfl (by decide) ?_
        exact lc_lent C0 hi hR (by omega) (by omega) hw hl kk
      by_cases c_14 : x9 = nI 14
      · subst c_14
        refine lv_tableIn (tgt := 1055) hx hb dL_law_40 (by decide) (by decide) rfl (by decide) ?_
        exact lc_waits C0 hi hR (by omega) (by omega) hw hl kk
      by_cases c_15 : x9 = nI 15
      · subst c_15
        refine lv_tableIn (tgt := 1122) hx hb dL_law_40 (by decide) (by decide) rfl (by decide) ?_
        exact lc_person C0 hi hR (by omega) (by omega) hw hl kk
      by_cases c_16 : x9 = nI 16
      · subst c_16
        refine lv_tableIn (tgt := 1159) hx hb dL_law_40 (by decide) (by decide) rfl (by decide) ?_
        exact lc_total C0 hi hR (by omega) (by omega) hw hl kk
      refine lv_tableOut (tgt := 1184) hx hb dL_law_40 (by have q0 := lv_neT c_0 (a := 0) (by decide); have q1 := lv_neT c_1 (a := 1) (by decide); have q2 := lv_neT c_2 (a := 2) (by decide); have q3 := lv_neT c_3 (a := 3) (by decide); have q4 := lv_neT c_4 (a := 4) (by decide); have q5 := lv_neT c_5 (a := 5) (by decide); have q6 := lv_neT c_6 (a := 6) (by decide); have q7 := lv_neT c_7 (a := 7) (by decide); have q8 := lv_neT c_8 (a := 8) (by decide); have q9 := lv_neT c_9 (a := 9) (by decide); have q10 := lv_neT c_10 (a := 10) (by decide); have q11 := lv_neT c_11 (a := 11) (by decide); have q12 := lv_neT c_12 (a := 12) (by decide); have q13 := lv_neT c_13 (a := 13) (by decide); have q14 := lv_neT c_14 (a := 14) (by decide); have q15 := lv_neT c_15 (a := 15) (by decide); have q16 := lv_neT c_16 (a := 16) (by decide); omega) (by decide) ?_
      exact W.widen (Nat.le_add_right _ _) (Nat.le_add_right _ _) (kk _ _ _ _ _ _ hR hw hl)
theorem lw_ar {s : State} {ty : FieldType} {c : ClassId} {k : Class} {comp : ClassId} (hn : ∀ C, ty ≠ .object C) (h1 : s.vm.findClass ("[" ++ ty.toString) = some c) (h2 : s.vm.classes[c]? = some k) (h3 : k.kind = .array comp ty) : ArrOfT s c ty ∧ va_RA s c ty := ⟨fun n z => ⟨fun k h => (by cases h), k, h2, comp, h3⟩, by
  cases ty with
  | object C => exact absurd rfl (hn C)
  | _ => exact h1⟩
theorem lw_arrays {s : State} {b : Nat} (hts : ∀ w ∈ lw_tbl, w.before #[Value.ref b] s = true) : ∃ ca : Nat → ClassId, ∀ (k : Nat) (q : ClassId × FieldType), (tyl ca)[k]? = some q → ArrOfT s q.1 q.2 ∧ va_RA s q.1 q.2 := by
  obtain ⟨c0, k0, p0, a0, b0, d0⟩ := Cond.arrayClass_spec (hts (.arrayClass .int) (by decide +kernel))
  obtain ⟨c1, k1, p1, a1, b1, d1⟩ := Cond.arrayClass_spec (hts (.arrayClass .long) (by decide +kernel))
  obtain ⟨c2, k2, p2, a2, b2, d2⟩ := Cond.arrayClass_spec (hts (.arrayClass .boolean) (by decide +kernel))
  obtain ⟨p3, c3, k3, -, b3, d3, a3⟩ := Cond.arrayOver_specA (hts (.arrayOver (.array .long)) (by decide +kernel))
  obtain ⟨p4, c4, k4, -, b4, d4, a4⟩ := Cond.arrayOver_specA (hts (.arrayOver (.array .int)) (by decide +kernel))
  refine ⟨fun k => if k = 0 then c0 else if k = 1 then c1 else if k = 2 then c2 else if k = 3 then c3 else c4, fun k q hq => ?_⟩
  match k, hq with
  | 0, hq => cases hq; exact lw_ar (fun C h => by cases h) a0 b0 d0
  | 1, hq => cases hq; exact lw_ar (fun C h => by cases h) a1 b1 d1
  | 2, hq => cases hq; exact lw_ar (fun C h => by cases h) a2 b2 d2
  | 3, hq => cases hq; exact lw_ar (fun C h => by cases h) a3 b3 d3
  | 4, hq => cases hq; exact lw_ar (fun C h => by cases h) a4 b4 d4
  | k + 5, hq => simp [tyl] at hq
theorem lw_classes {s : State} {b : Nat} (hts : ∀ w ∈ wa_T, w.before #[Value.ref b] s = true) : ∃ (dC : Nat → ClassId) (dI : Nat → Nat → Nat), ∀ (k : Nat) (q : vw_C), vwCl[k]? = some q → u_Kn s q.1 q.2.1 q.2.2 (dC k) (dI k) := by
  obtain ⟨c0, i0, h0⟩ := u_known (C := RX0) (T := TX0) (N := 5) (n := 5) hts inX0 (hts _ wd_56)
  obtain ⟨c1, i1, h1⟩ := u_known (C := RX1) (T := TX1) (N := 4) (n := 4) hts inX1 (hts _ wd_27)
  obtain ⟨c2, i2, h2⟩ := u_known (C := RX2) (T := TX2) (N := 3) (n := 3) hts inX2 (hts _ wd_127)
  obtain ⟨c3, i3, h3⟩ := u_known (C := RX3) (T := TX3) (N := 9) (n := 9) hts inX3 (hts _ wd_84)
  obtain ⟨c4, i4, h4⟩ := u_known (C := RX4) (T := TX4) (N := 3) (n := 3) hts inX4 (hts _ wd_149)
  obtain ⟨c5, i5, h5⟩ := u_known (C := RX5) (T := TX5) (N := 7) (n := 7) hts inX5 (hts _ wd_19)
  obtain ⟨c6, i6, h6⟩ := u_known (C := RX6) (T := TX6) (N := 27) (n := 27) hts inX6 (hts _ wd_560)
  refine ⟨fun k => if k = 0 then c0 else if k = 1 then c1 else if k = 2 then c2 else if k = 3 then c3 else if k = 4 then c4 else if k = 5 then c5 else c6, fun k => if k = 0 then i0 else if k = 1 then i1 else if k = 2 then i2 else if k = 3 then i3 else if k = 4 then i4 else if k = 5 then i5 else i6, fun k q hq => ?_⟩
  match k, hq with
  | 0, hq => cases hq; exact h0
  | 1, hq => cases hq; exact h1
  | 2, hq => cases hq; exact h2
  | 3, hq => cases hq; exact h3
  | 4, hq => cases hq; exact h4
  | 5, hq => cases hq; exact h5
  | 6, hq => cases hq; exact h6
  | k + 7, hq => simp [vwCl] at hq
theorem lw_ex {s : State} {b : Nat} (hts : ∀ w ∈ lw_tbl, w.before #[Value.ref b] s = true) (hgv : (Jvm.Cond.and given_1 narrow_1).before #[Value.ref b] s = true) : ex_Z (lwA s) s s.heap ∧ cn_Z s := by
  have hs := flat_of_before _ hgv
  obtain ⟨cC, kC, hfc, -⟩ := Cond.instantiable_spec (hts (.instantiable "LentBounds" 7) (by decide +kernel))
  have hst : ∀ x ∈ ex_S, ∃ a, vk_R "LentBounds" x.1 x.2 a s := fun x hx => by
    have h1 : Cond.stringRef "LentBounds" x.1 x.2 ∈ lw_tbl := (show ∀ x ∈ ex_S, Cond.stringRef "LentBounds" x.1 x.2 ∈ lw_tbl from by decide +kernel) x hx
    obtain ⟨k, cf, i, a, -, -, -, -, -, h9⟩ := Cond.stringRef_spec hfc (hts _ h1)
    exact ⟨a, vk_R.of (hts _ h1) h9⟩
  have hA : ∀ q : Nat, q < s.heap.size → ¬ lwA s q := fun q h => Nat.not_le.mpr h
  refine ⟨⟨fun x hx => va_Nw.of rfl (hts _ ((show ∀ x ∈ ex_E, Cond.castable x x ∈ lw_tbl from by decide +kernel) x hx)), fun x hx => va_Nw.of rfl (hts _ ((show ∀ x ∈ ex_D, Cond.declares (Bundle.initS x) ∈ lw_tbl from by decide +kernel) x hx)), fun x hx => va_Nc.of (hs _ ((show ∀ x ∈ ex_N, Cond.not (.castable x.1 x.2) ∈ flatC (Jvm.Cond.and given_1 narrow_1) from by decide +kernel) x hx)), hst, ex_f.of (hts _ (by decide +kernel)) (hs _ (by decide +kernel)) hA, ex_f.of (hts _ (by decide +kernel)) (hs _ (by decide +kernel)) hA⟩,
    fun x hx => va_Nw.of rfl (hts _ ((show ∀ x ∈ cn_L, Cond.methodLinkNest "LentBounds" x.1 ⟨x.2, "<init>", "()V"⟩ "LentBounds" ∈ lw_tbl from by decide +kernel) x hx)), ?_, ?_⟩
  · exact hts (.arrayOver (.array .long)) (by decide +kernel)
  · exact hts (.arrayOver (.array .int)) (by decide +kernel)
theorem lw_RE0 : RE Sc0 Mc0 := ⟨0, 0, JJ_0 Sc0 Mc0 (fun _ _ => rfl) (fun q j h => congrFun (if_neg h) j) (fun j hj => by rcases (show j = 0 ∨ j = 1 ∨ j = 2 ∨ j = 3 ∨ j = 4 ∨ j = 5 by omega) with rfl | rfl | rfl | rfl | rfl | rfl <;> first | rfl | decide) (fun _ _ => rfl) (fun q j h => congrFun (if_neg h) j) (fun j hj => by rcases (show j = 0 ∨ j = 1 ∨ j = 2 ∨ j = 3 ∨ j = 4 ∨ j = 5 by omega) with rfl | rfl | rfl | rfl | rfl | rfl <;> first | rfl | decide)⟩
set_option maxHeartbeats 4000000 in
set_option maxRecDepth 100000 in
theorem whole_start {p : Program} {e : Env} {s : State} {m : MethodId} {below : List Frame} {meth : Method} {c : Code} (l : Launch) (htr : l.stackTraces = false) {b L : Nat} {xs : Nat → Int32} (hL : L ≤ 3584) (C0 : lw_At p s m meth c b L xs) : W p l e room_1 s m #[Value.ref b] below meth c s.heap [] 0 0 (lw_Z below #[Value.ref b] s) (entryFrame m ([Value.ref b] : List Value).toArray 8) := by
  obtain ⟨hx, hb, hr, hml, hown, htb, hX, hbl, hlocks, hgv⟩ := C0
  have hts : ∀ w ∈ wa_T, w.before #[Value.ref b] s = true := fun w h => htb w (List.mem_filter.mp h).1
  have hown : s.vm.findClass "LentBoundsLaw" = some m.cls := hown
  obtain ⟨ca, hKa⟩ := lw_arrays htb
  obtain ⟨dC, dI, hKc⟩ := lw_classes hts
  have hK : va_K (dC, dI) vwCl (tyl ca) s := ⟨hKc, hKa⟩
  obtain ⟨hZ, hZc⟩ := lw_ex htb hgv
  have hC : LC p l s m meth c dC dI ca b L xs := ⟨hx, hb, hr, hml, hown, hts, hX, hbl, hlocks, hK, hZ, hL, htr⟩
  have hA : ∀ q : Nat, s.heap.size ≤ q → lwA s q := fun _ h => h
  have hw : wo_w (dC, dI) vwCl (lwA s) s.heap [] s.heap [] := ⟨fun k q h => by simp at h, ⟨fun i j p q h => by simp at h, fun k q h => by simp at h⟩, va_S.rf⟩
  have hl := lv_entry ([.ref b]) (n := 8) (Nat.le_of_ble_eq_true rfl)
  rw [lg_entry_eq]
  generalize (lg_sl ([.ref b]) ++ List.replicate (8 - (lg_sl ([.ref b])).length) Slot.unset).toArray = ls at hl ⊢
  have hl : lv_has ls 8 [(0, .ref b)] := hl
  refine wo_new (ci := 5) (fs := [.null, .null, .null, .null, .null, .int 0, .int 0]) (C := RX5) (T := TX5) (N := 7) hx hb hts inX5 tyX5 tyX5_ok hown (hts _ wd_18) (hts _ wd_19) (hts _ wd_1) hK hw hA rfl (fun j hj => by rcases (show j = 0 ∨ j = 1 ∨ j = 2 ∨ j = 3 ∨ j = 4 ∨ j = 5 ∨ j = 6 by omega) with rfl | rfl | rfl | rfl | rfl | rfl | rfl <;> rfl) ⟨Nat.le_of_ble_eq_true rfl, Nat.le_of_ble_eq_true rfl⟩ dL_law_0 (fun q5 H hw => ?_)
  refine lv_dup hx hb dL_law_3 rfl ?_
  have hw : wo_w (dC, dI) vwCl (lwA s) s.heap ([] ++ ([(q5, .inr (5, [.null, .null, .null, .null, .null, .int 0, .int 0]))] ++ [])) H [] := hw
  refine fw_N (w1 := []) (w0 := [(q5, .inr (5, [.null, .null, .null, .null, .null, .int 0, .int 0]))]) (w2 := []) (wd := (fun ad => wc ca ad Sc0)) hw hA (va_runI (As := []) (rest := [.ref q5]) ⟨hx, hb, hml, hown, hts⟩ (kX5_init l dC dI ca q5 _) ⟨callB_of 0 hts (wa_code wd_22) rfl rfl rfl (hts _ wd_1) (hts _ wd_20) (by decide +kernel) ⟨Nat.le_of_ble_eq_true rfl, Nat.le_of_ble_eq_true rfl⟩, rfl, hts _ wd_21⟩ (cn_pre (w1 := []) (w2 := []) hK hZc hw _) rfl rfl hl.1 rfl (lv_room (Nat.le_of_ble_eq_true rfl)) dL_law_4 ⟨Nat.le_of_ble_eq_true rfl, Nat.le_of_ble_eq_true rfl⟩) (fun ad H locs hp hw9 => ?_)
  subst hp
  have hw : wo_w (dC, dI) vwCl (lwA s) s.heap (wc ca ad Sc0) H locs := by rw [← List.append_nil (wc ca ad Sc0)]; exact hw9
  refine lv_astore_n (lv' := [(1, .ref (ad 0)), (0, .ref b)]) hx hb dL_law_7 rfl hl (by decide) rfl (fun ls hl => ?_)
  refine wo_new (ci := 6) (fs := [.int 0, .int 0, .null, .null, .null, .null, .null, .null, .null, .null, .null, .null, .null, .int 0, .null, .null, .null, .null, .null, .null, .null, .null, .int 0, .int 0, .null, .null, .null]) (C := RX6) (T := TX6) (N := 27) hx hb hts inX6 tyX6 tyX6_ok hown (hts _ wd_559) (hts _ wd_560) (hts _ wd_8) hK hw hA rfl (fun j hj => by rcases (show j = 0 ∨ j = 1 ∨ j = 2 ∨ j = 3 ∨ j = 4 ∨ j = 5 ∨ j = 6 ∨ j = 7 ∨ j = 8 ∨ j = 9 ∨ j = 10 ∨ j = 11 ∨ j = 12 ∨ j = 13 ∨ j = 14 ∨ j = 15 ∨ j = 16 ∨ j = 17 ∨ j = 18 ∨ j = 19 ∨ j = 20 ∨ j = 21 ∨ j = 22 ∨ j = 23 ∨ j = 24 ∨ j = 25 ∨ j = 26 by omega) with rfl | rfl | rfl | rfl | rfl | rfl | rfl | rfl | rfl | rfl | rfl | rfl | rfl | rfl | rfl | rfl | rfl | rfl | rfl | rfl | rfl | rfl | rfl | rfl | rfl | rfl | rfl <;> rfl) ⟨Nat.le_of_ble_eq_true rfl, Nat.le_of_ble_eq_true rfl⟩ dL_law_8 (fun q6 H hw => ?_)
  refine lv_dup hx hb dL_law_11 rfl ?_
  have hw : wo_w (dC, dI) vwCl (lwA s) s.heap (wc ca ad Sc0 ++ ([(q6, .inr (6, [.int 0, .int 0, .null, .null, .null, .null, .null, .null, .null, .null, .null, .null, .null, .int 0, .null, .null, .null, .null, .null, .null, .null, .null, .int 0, .int 0, .null, .null, .null]))] ++ [])) H locs := hw
  refine fw_N (w1 := wc ca ad Sc0) (w0 := [(q6, .inr (6, [.int 0, .int 0, .null, .null, .null, .null, .null, .null, .null, .null, .null, .null, .null, .int 0, .null, .null, .null, .null, .null, .null, .null, .null, .int 0, .int 0, .null, .null, .null]))]) (w2 := []) (wd := (fun ad => wq ca ad Mc0)) hw hA (va_runI (As := []) (rest := [.ref q6]) ⟨hx, hb, hml, hown, hts⟩ (kX6_init l dC dI ca q6 _) ⟨callB_of 0 hts (wa_code wd_563) rfl rfl rfl (hts _ wd_8) (hts _ wd_561) (by decide +kernel) ⟨Nat.le_of_ble_eq_true rfl, Nat.le_of_ble_eq_true rfl⟩, rfl, hts _ wd_562⟩ (cn_pre (w1 := wc ca ad Sc0) (w2 := []) hK hZc hw _) rfl rfl hl.1 rfl (lv_room (Nat.le_of_ble_eq_true rfl)) dL_law_12 ⟨Nat.le_of_ble_eq_true rfl, Nat.le_of_ble_eq_true rfl⟩) (fun md H locs hp hw9 => ?_)
  subst hp
  have hw : wo_w (dC, dI) vwCl (lwA s) s.heap (wc ca ad Sc0 ++ wq ca md Mc0) H locs := by rw [← List.append_nil (wq ca md Mc0)]; exact hw9
  refine lv_astore_n (lv' := [(2, .ref (md 0)), (1, .ref (ad 0)), (0, .ref b)]) hx hb dL_law_15 rfl hl (by decide) rfl (fun ls hl => ?_)
  refine lv_iconst (v := nI 1) hx hb dL_law_16 (by decide) ?_
  refine wo_newa (atype := .long) (N := 1) (a0 := (1, .inr (.inl fun _ => 0))) hx hb (hts _ wd_52) rfl (fun C h => by cases h) hK hw hA 1 rfl (fun _ => rfl) (by decide) (by decide) ⟨Nat.le_of_ble_eq_true rfl, Nat.le_of_ble_eq_true rfl⟩ dL_law_17 (fun oa H hw => ?_)
  refine lv_astore_n (lv' := [(3, .ref oa), (2, .ref (md 0)), (1, .ref (ad 0)), (0, .ref b)]) hx hb dL_law_19 rfl hl (by decide) rfl (fun ls hl => ?_)
  refine lv_iconst (v := nI 0) hx hb dL_law_20 (by decide) ?_
  refine lv_istore (lv' := lwl b oa 0 ad md) hx hb dL_law_21 hl (by decide) rfl (fun ls hl => ?_)
  have hw : wo_w (dC, dI) vwCl (lwA s) s.heap (wL ca ad md oa Sc0 Mc0 (fun _ => 0)) H locs := wo_perm hw [0, 1, 2, 3, 4, 5, 6, 7, 8, 9, 10, 11, 12, 13, 14, 15, 16, 17, 18, 19, 20, 21, 22, 23, 24, 25, 26, 27, 28, 29, 30, 31, 32, 33, 34, 35, 36, 37, 38, 39, 40, 41, 42, 43, 44, 45, 46, 47, 48, 49, 50, 51, 75, 52, 53, 54, 55, 56, 57, 58, 59, 60, 61, 62, 63, 64, 65, 66, 67, 68, 69, 70, 71, 72, 73, 74] (by decide) rfl
  exact lw_loop hC (L / 7 + 1) 0 (Nat.zero_le _) (by omega) Sc0 Mc0 _ H locs ls _ _ (by omega) (by omega) lw_RE0 hw hl
