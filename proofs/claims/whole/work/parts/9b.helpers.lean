/-- the class's world and the law's array of one long -/
def wh (ca : Nat → ClassId) (ad : Nat → Nat) (oa : Nat) (X : sSt × (Nat → Int64)) : va_W := wc ca ad X.1 ++ [(oa, .inl (ca 1, 1, .inr (.inl X.2)))]
theorem tx_tab {p : Program} {l : Launch} {y : MethodName} {Z : Spec} {cc bytes : ByteArray} {maxL maxL2 : Nat} {ret ret2 : Option FieldType} {e : Env} {s s1 : State} {m : MethodId} {args : Array Value} {below : List Frame} {meth : Method} {c : Code} {hh : List (Nat × Nat × Nat × Nat)}
    (B : BodyLoose p l y Z cc maxL ret e s m args below meth c s1) (h : (Cond.codeWith y bytes maxL2 ret2 hh).before args s = true) : c.exceptionTable.toList = tableOf hh := by
  obtain ⟨m9, meth9, c9, hn9, h1, h2, -, -, h6, -⟩ := Cond.codeWith_spec h
  cases Option.some.inj (hn9.symm.trans B.named)
  cases Option.some.inj (h1.symm.trans B.method)
  cases Option.some.inj (h2.symm.trans (Stand.of_body B).code)
  rw [← h6, table_eq]
theorem dL_share_0 : decode cL_share 0 = .ok (.aload 4, 2) := by decide +kernel
theorem dL_share_2 : decode cL_share 2 = .ok (.iconst 0, 1) := by decide +kernel
theorem dL_share_3 : decode cL_share 3 = .ok (.aload_n 0, 1) := by decide +kernel
theorem dL_share_4 : decode cL_share 4 = .ok (.iload_n 1, 1) := by decide +kernel
theorem dL_share_5 : decode cL_share 5 = .ok (.iload_n 2, 1) := by decide +kernel
theorem dL_share_6 : decode cL_share 6 = .ok (.iload_n 3, 1) := by decide +kernel
theorem dL_share_7 : decode cL_share 7 = .ok (.invokevirtual 19, 3) := by decide +kernel
theorem dL_share_10 : decode cL_share 10 = .ok (.lastore, 1) := by decide +kernel
theorem dL_share_11 : decode cL_share 11 = .ok (.goto 7, 3) := by decide +kernel
theorem dL_share_14 : decode cL_share 14 = .ok (.astore 5, 2) := by decide +kernel
theorem dL_share_16 : decode cL_share 16 = .ok (.iconst 1, 1) := by decide +kernel
theorem dL_share_17 : decode cL_share 17 = .ok (.ireturn, 1) := by decide +kernel
theorem dL_share_18 : decode cL_share 18 = .ok (.iconst 0, 1) := by decide +kernel
theorem dL_share_19 : decode cL_share 19 = .ok (.ireturn, 1) := by decide +kernel

theorem dL_sum_0 : decode cL_sum 0 = .ok (.aload_n 3, 1) := by decide +kernel
theorem dL_sum_1 : decode cL_sum 1 = .ok (.iconst 0, 1) := by decide +kernel
theorem dL_sum_2 : decode cL_sum 2 = .ok (.aload_n 0, 1) := by decide +kernel
theorem dL_sum_3 : decode cL_sum 3 = .ok (.iload_n 1, 1) := by decide +kernel
theorem dL_sum_4 : decode cL_sum 4 = .ok (.iload_n 2, 1) := by decide +kernel
theorem dL_sum_5 : decode cL_sum 5 = .ok (.invokevirtual 25, 3) := by decide +kernel
theorem dL_sum_8 : decode cL_sum 8 = .ok (.lastore, 1) := by decide +kernel
theorem dL_sum_9 : decode cL_sum 9 = .ok (.goto 7, 3) := by decide +kernel
theorem dL_sum_12 : decode cL_sum 12 = .ok (.astore 4, 2) := by decide +kernel
theorem dL_sum_14 : decode cL_sum 14 = .ok (.iconst 1, 1) := by decide +kernel
theorem dL_sum_15 : decode cL_sum 15 = .ok (.ireturn, 1) := by decide +kernel
theorem dL_sum_16 : decode cL_sum 16 = .ok (.iconst 0, 1) := by decide +kernel
theorem dL_sum_17 : decode cL_sum 17 = .ok (.ireturn, 1) := by decide +kernel

theorem dL_lent_0 : decode cL_lent 0 = .ok (.aload_n 2, 1) := by decide +kernel
theorem dL_lent_1 : decode cL_lent 1 = .ok (.iconst 0, 1) := by decide +kernel
theorem dL_lent_2 : decode cL_lent 2 = .ok (.aload_n 0, 1) := by decide +kernel
theorem dL_lent_3 : decode cL_lent 3 = .ok (.iload_n 1, 1) := by decide +kernel
theorem dL_lent_4 : decode cL_lent 4 = .ok (.invokevirtual 29, 3) := by decide +kernel
theorem dL_lent_7 : decode cL_lent 7 = .ok (.lastore, 1) := by decide +kernel
theorem dL_lent_8 : decode cL_lent 8 = .ok (.goto 6, 3) := by decide +kernel
theorem dL_lent_11 : decode cL_lent 11 = .ok (.astore_n 3, 1) := by decide +kernel
theorem dL_lent_12 : decode cL_lent 12 = .ok (.iconst 1, 1) := by decide +kernel
theorem dL_lent_13 : decode cL_lent 13 = .ok (.ireturn, 1) := by decide +kernel
theorem dL_lent_14 : decode cL_lent 14 = .ok (.iconst 0, 1) := by decide +kernel
theorem dL_lent_15 : decode cL_lent 15 = .ok (.ireturn, 1) := by decide +kernel

theorem dL_waits_0 : decode cL_waits 0 = .ok (.aload_n 3, 1) := by decide +kernel
theorem dL_waits_1 : decode cL_waits 1 = .ok (.iconst 0, 1) := by decide +kernel
theorem dL_waits_2 : decode cL_waits 2 = .ok (.aload_n 0, 1) := by decide +kernel
theorem dL_waits_3 : decode cL_waits 3 = .ok (.iload_n 1, 1) := by decide +kernel
theorem dL_waits_4 : decode cL_waits 4 = .ok (.iload_n 2, 1) := by decide +kernel
theorem dL_waits_5 : decode cL_waits 5 = .ok (.invokevirtual 33, 3) := by decide +kernel
theorem dL_waits_8 : decode cL_waits 8 = .ok (.lastore, 1) := by decide +kernel
theorem dL_waits_9 : decode cL_waits 9 = .ok (.goto 7, 3) := by decide +kernel
theorem dL_waits_12 : decode cL_waits 12 = .ok (.astore 4, 2) := by decide +kernel
theorem dL_waits_14 : decode cL_waits 14 = .ok (.iconst 1, 1) := by decide +kernel
theorem dL_waits_15 : decode cL_waits 15 = .ok (.ireturn, 1) := by decide +kernel
theorem dL_waits_16 : decode cL_waits 16 = .ok (.iconst 0, 1) := by decide +kernel
theorem dL_waits_17 : decode cL_waits 17 = .ok (.ireturn, 1) := by decide +kernel

theorem dL_bound_0 : decode cL_bound 0 = .ok (.aload 7, 2) := by decide +kernel
theorem dL_bound_2 : decode cL_bound 2 = .ok (.iconst 0, 1) := by decide +kernel
theorem dL_bound_3 : decode cL_bound 3 = .ok (.aload_n 0, 1) := by decide +kernel
theorem dL_bound_4 : decode cL_bound 4 = .ok (.lload_n 1, 1) := by decide +kernel
theorem dL_bound_5 : decode cL_bound 5 = .ok (.lload_n 3, 1) := by decide +kernel
theorem dL_bound_6 : decode cL_bound 6 = .ok (.lload 5, 2) := by decide +kernel
theorem dL_bound_8 : decode cL_bound 8 = .ok (.invokevirtual 7, 3) := by decide +kernel
theorem dL_bound_11 : decode cL_bound 11 = .ok (.i2l, 1) := by decide +kernel
theorem dL_bound_12 : decode cL_bound 12 = .ok (.lastore, 1) := by decide +kernel
theorem dL_bound_13 : decode cL_bound 13 = .ok (.goto 15, 3) := by decide +kernel
theorem dL_bound_16 : decode cL_bound 16 = .ok (.astore 8, 2) := by decide +kernel
theorem dL_bound_18 : decode cL_bound 18 = .ok (.iconst 1, 1) := by decide +kernel
theorem dL_bound_19 : decode cL_bound 19 = .ok (.ireturn, 1) := by decide +kernel
theorem dL_bound_20 : decode cL_bound 20 = .ok (.astore 8, 2) := by decide +kernel
theorem dL_bound_22 : decode cL_bound 22 = .ok (.iconst 2, 1) := by decide +kernel
theorem dL_bound_23 : decode cL_bound 23 = .ok (.ireturn, 1) := by decide +kernel
theorem dL_bound_24 : decode cL_bound 24 = .ok (.astore 8, 2) := by decide +kernel
theorem dL_bound_26 : decode cL_bound 26 = .ok (.iconst 3, 1) := by decide +kernel
theorem dL_bound_27 : decode cL_bound 27 = .ok (.ireturn, 1) := by decide +kernel
theorem dL_bound_28 : decode cL_bound 28 = .ok (.iconst 0, 1) := by decide +kernel
theorem dL_bound_29 : decode cL_bound 29 = .ok (.ireturn, 1) := by decide +kernel

set_option maxHeartbeats 4000000 in
set_option maxRecDepth 100000 in
theorem kL_share (l : Launch) (htr : l.stackTraces = false) (dC : Nat → ClassId) (dI : Nat → Nat → Nat) (ca : Nat → ClassId) (ad : Nat → Nat) (oa : Nat) (S : sSt) (f : Nat → Int64) (bb : Int32) (sd : Int32) (pp : Int32) (nb nr : Nat) (hb6 : nb ≤ 6) (hr2 : nr ≤ 200) (hri : RI nb nr S) (sz : Nat) : Met l yL_share (Cond.codeWith yL_share cL_share 6 (some .int) [(0, 11, 14, 23)] :: wa_T) ({ frames := 7, cells := 1, slots := 6, locals := 113 } : Room) (tx_P (dC, dI) vwCl (tyl ca) (wh ca ad oa (S, f)) sz [.ref (ad 0), .int bb, .int sd, .int pp, .ref oa]) (va_Qi (fun r X => (shOk S bb sd pp = true ∧ r = nI 0 ∧ X = (S, vp_updL f 0 (shV S bb sd pp))) ∨ (shOk S bb sd pp = false ∧ r = nI 1 ∧ X = (S, f))) (ct_B (dC, dI) vwCl (tyl ca) (wh ca ad oa) (va_A (wh ca ad oa (S, f)) sz)) (va_A (wh ca ad oa (S, f)) sz)) 1 6 (va_A (wh ca ad oa (S, f)) sz) := by
  refine va_MetW (cc := cL_share) (maxL := 6) (ret := (some .int)) (hh := [(0, 11, 14, 23)]) (by decide) rfl ?_
  intro p e s m args below meth c s1 B hml hv
  obtain ⟨rfl, hsz, hP, hK, hD0, hZ⟩ := hv
  subst hsz
  have htab := tx_tab B (atoms_spec (ws := Cond.codeWith yL_share cL_share 6 (some .int) [(0, 11, 14, 23)] :: wa_T) B.pre _ List.mem_cons_self)
  have hl := lv_entry [.ref (ad 0), .int bb, .int sd, .int pp, .ref oa] (n := 6) (Nat.le_of_ble_eq_true rfl)
  rw [lg_entry_eq]
  have hts : ∀ w ∈ wa_T, w.before ([.ref (ad 0), .int bb, .int sd, .int pp, .ref oa] : List Value).toArray s = true := fun w h => atoms_spec (ws := Cond.codeWith yL_share cL_share 6 (some .int) [(0, 11, 14, 23)] :: wa_T) B.pre w (List.mem_cons_of_mem _ h)
  have hx := B.exec
  have hb := B.bytes
  have hr := B.returns
  have hown : s.vm.findClass "LentBoundsLaw" = some m.cls := findClass_of_methodNamed B.named
  have hlocks := B.notSynchronized
  generalize hAd : va_A (wh ca ad oa (S, f)) s.heap.size = A at hZ ⊢
  have hA : ∀ q, s.heap.size ≤ q → A q := fun q h => by rw [← hAd]; exact Or.inr h
  have hw : wo_w (dC, dI) vwCl A s.heap (wh ca ad oa (S, f)) s.heap [] := by rw [← hAd]; exact ⟨hP, hD0.self, va_S.rf⟩
  have hl : lv_has _ 6 [(0, .ref (ad 0)), (1, .int bb), (2, .int sd), (3, .int pp), (4, .ref oa)] := hl
  revert hl
  intro hl
  refine lv_aload hx hb dL_share_0 (lv_at hl 4 rfl) ?_
  refine lv_iconst (v := nI 0) hx hb dL_share_2 (by decide) ?_
  refine lv_aload_n hx hb dL_share_3 rfl (lv_at hl 0 rfl) ?_
  refine lv_iload_n hx hb dL_share_4 rfl (lv_at hl 1 rfl) ?_
  refine lv_iload_n hx hb dL_share_5 rfl (lv_at hl 2 rfl) ?_
  refine lv_iload_n hx hb dL_share_6 rfl (lv_at hl 3 rfl) ?_
  have hw : wo_w (dC, dI) vwCl A s.heap ([] ++ (wc ca ad S ++ [(oa, .inl (ca 1, 1, .inr (.inl f)))])) s.heap [] := hw
  by_cases hok : shOk S bb sd pp = true
  · skip
    refine fw_L hw hA (va_runV (As := [.int bb, .int sd, .int pp]) (rest := [.int (nI 0), .ref oa]) ⟨hx, hb, hml, hown, hts⟩ (tx_norm (kX5_share l htr dC dI ca ad S bb sd pp nb nr hb6 hr2 hri) (by intro E S2 h; rw [hok] at h; exact absurd h.2.1 (by decide)) s.heap.size) (cwV 3 hts (wa_gV wd_501 wd_502 wd_503 wd_1 wd_504) rfl rfl rfl (by decide +kernel) ⟨Nat.le_of_ble_eq_true rfl, Nat.le_of_ble_eq_true rfl⟩) (tx_preV hK hZ hw hA 0 rfl rfl [.int bb, .int sd, .int pp]) rfl rfl hl.1 rfl (lv_room (Nat.le_of_ble_eq_true rfl)) dL_share_7 ⟨Nat.le_of_ble_eq_true rfl, Nat.le_of_ble_eq_true rfl⟩) (fun r S2 H locs hp hw => ?_)
    obtain ⟨ho9, e9, f9⟩ := hp
    have f9 := f9.symm
    subst f9
    have e9 := e9.symm
    subst e9
    refine wo_last hx hb hK hw 52 1 rfl rfl 0 rfl (by decide) (by decide) (show _ = wh ca ad oa (S, vp_updL f 0 (shV S bb sd pp)) from rfl) dL_share_10 (fun H locs hw => ?_)
    refine lv_goto (tgt := 18) hx hb dL_share_11 (by decide) ?_
    refine lv_iconst (v := nI 0) hx hb dL_share_18 (by decide) ?_
    exact W.iret (v := nI 0) hx hb hr (fun t ht hW => ⟨⟨nI 0, (S, vp_updL f 0 (shV S bb sd pp)), rfl, Or.inl ⟨hok, rfl, rfl⟩, by rw [ht]; exact hw.1, va_K.moved hW.alike hK, hw.2.1⟩, hw.2.2.F ht⟩) hw.2.2.2.2 dL_share_19 hlocks
  · skip
    refine tx_vX (As := [.int bb, .int sd, .int pp]) (rest := [.int (nI 0), .ref oa]) (kX5_share l htr dC dI ca ad S bb sd pp nb nr hb6 hr2 hri) (by rintro A9 a9 st9 o9 t9 ⟨⟨r9, u9, -, h, -⟩, -⟩; exact hok h.1) ⟨hx, hb, hml, hown, hts⟩ (cwV 3 hts (wa_gV wd_501 wd_502 wd_503 wd_1 wd_504) rfl rfl rfl (by decide +kernel) ⟨Nat.le_of_ble_eq_true rfl, Nat.le_of_ble_eq_true rfl⟩) hK hZ hw hA 0 rfl rfl rfl rfl hl.1 rfl (Nat.le_of_ble_eq_true rfl) dL_share_7 ⟨Nat.le_of_ble_eq_true rfl, Nat.le_of_ble_eq_true rfl⟩ (fun E S2 q H locs hp hw => ?_)
    obtain ⟨e9, ho9, f9⟩ := hp
    subst e9
    have f9 := f9.symm
    subst f9
    refine ⟨14, ⟨[], ⟨0, 11, 14, 23⟩, [], htab, rfl, by decide, by decide, hts _ wd_500, hZ.1 _ (by simp [ex_E]), (fun z hz => nomatch hz)⟩, ?_⟩
    have hw : wo_w (dC, dI) vwCl A s.heap (wh ca ad oa (S, f)) H locs := hw
    refine lv_astore (lv' := [(5, .ref q), (0, .ref (ad 0)), (1, .int bb), (2, .int sd), (3, .int pp), (4, .ref oa)]) hx hb dL_share_14 hl (by decide) rfl (fun ls hl => ?_)
    refine lv_iconst (v := nI 1) hx hb dL_share_16 (by decide) ?_
    exact W.iret (v := nI 1) hx hb hr (fun t ht hW => ⟨⟨nI 1, (S, f), rfl, Or.inr (⟨ho9, rfl, rfl⟩), by rw [ht]; exact hw.1, va_K.moved hW.alike hK, hw.2.1⟩, hw.2.2.F ht⟩) hw.2.2.2.2 dL_share_17 hlocks

set_option maxHeartbeats 4000000 in
set_option maxRecDepth 100000 in
theorem kL_sum (l : Launch) (htr : l.stackTraces = false) (dC : Nat → ClassId) (dI : Nat → Nat → Nat) (ca : Nat → ClassId) (ad : Nat → Nat) (oa : Nat) (S : sSt) (f : Nat → Int64) (bb : Int32) (wh9 : Int32) (nb nr : Nat) (hb6 : nb ≤ 6) (hr2 : nr ≤ 200) (hri : RI nb nr S) (sz : Nat) : Met l yL_sum (Cond.codeWith yL_sum cL_sum 5 (some .int) [(0, 9, 12, 23)] :: wa_T) ({ frames := 7, cells := 1, slots := 6, locals := 112 } : Room) (tx_P (dC, dI) vwCl (tyl ca) (wh ca ad oa (S, f)) sz [.ref (ad 0), .int bb, .int wh9, .ref oa]) (va_Qi (fun r X => (suOk S bb wh9 = true ∧ r = nI 0 ∧ X = (S, vp_updL f 0 (suV S nr bb wh9))) ∨ (suOk S bb wh9 = false ∧ r = nI 1 ∧ X = (S, f))) (ct_B (dC, dI) vwCl (tyl ca) (wh ca ad oa) (va_A (wh ca ad oa (S, f)) sz)) (va_A (wh ca ad oa (S, f)) sz)) 1 6 (va_A (wh ca ad oa (S, f)) sz) := by
  refine va_MetW (cc := cL_sum) (maxL := 5) (ret := (some .int)) (hh := [(0, 9, 12, 23)]) (by decide) rfl ?_
  intro p e s m args below meth c s1 B hml hv
  obtain ⟨rfl, hsz, hP, hK, hD0, hZ⟩ := hv
  subst hsz
  have htab := tx_tab B (atoms_spec (ws := Cond.codeWith yL_sum cL_sum 5 (some .int) [(0, 9, 12, 23)] :: wa_T) B.pre _ List.mem_cons_self)
  have hl := lv_entry [.ref (ad 0), .int bb, .int wh9, .ref oa] (n := 5) (Nat.le_of_ble_eq_true rfl)
  rw [lg_entry_eq]
  have hts : ∀ w ∈ wa_T, w.before ([.ref (ad 0), .int bb, .int wh9, .ref oa] : List Value).toArray s = true := fun w h => atoms_spec (ws := Cond.codeWith yL_sum cL_sum 5 (some .int) [(0, 9, 12, 23)] :: wa_T) B.pre w (List.mem_cons_of_mem _ h)
  have hx := B.exec
  have hb := B.bytes
  have hr := B.returns
  have hown : s.vm.findClass "LentBoundsLaw" = some m.cls := findClass_of_methodNamed B.named
  have hlocks := B.notSynchronized
  generalize hAd : va_A (wh ca ad oa (S, f)) s.heap.size = A at hZ ⊢
  have hA : ∀ q, s.heap.size ≤ q → A q := fun q h => by rw [← hAd]; exact Or.inr h
  have hw : wo_w (dC, dI) vwCl A s.heap (wh ca ad oa (S, f)) s.heap [] := by rw [← hAd]; exact ⟨hP, hD0.self, va_S.rf⟩
  have hl : lv_has _ 5 [(0, .ref (ad 0)), (1, .int bb), (2, .int wh9), (3, .ref oa)] := hl
  revert hl
  intro hl
  refine lv_aload_n hx hb dL_sum_0 rfl (lv_at hl 3 rfl) ?_
  refine lv_iconst (v := nI 0) hx hb dL_sum_1 (by decide) ?_
  refine lv_aload_n hx hb dL_sum_2 rfl (lv_at hl 0 rfl) ?_
  refine lv_iload_n hx hb dL_sum_3 rfl (lv_at hl 1 rfl) ?_
  refine lv_iload_n hx hb dL_sum_4 rfl (lv_at hl 2 rfl) ?_
  have hw : wo_w (dC, dI) vwCl A s.heap ([] ++ (wc ca ad S ++ [(oa, .inl (ca 1, 1, .inr (.inl f)))])) s.heap [] := hw
  by_cases hok : suOk S bb wh9 = true
  · skip
    refine fw_L hw hA (va_runV (As := [.int bb, .int wh9]) (rest := [.int (nI 0), .ref oa]) ⟨hx, hb, hml, hown, hts⟩ (tx_norm (kX5_sum l htr dC dI ca ad S bb wh9 nb nr hb6 hr2 hri) (by intro E S2 h; rw [hok] at h; exact absurd h.2.1 (by decide)) s.heap.size) (cwV 2 hts (wa_gV wd_524 wd_525 wd_526 wd_1 wd_527) rfl rfl rfl (by decide +kernel) ⟨Nat.le_of_ble_eq_true rfl, Nat.le_of_ble_eq_true rfl⟩) (tx_preV hK hZ hw hA 0 rfl rfl [.int bb, .int wh9]) rfl rfl hl.1 rfl (lv_room (Nat.le_of_ble_eq_true rfl)) dL_sum_5 ⟨Nat.le_of_ble_eq_true rfl, Nat.le_of_ble_eq_true rfl⟩) (fun r S2 H locs hp hw => ?_)
    obtain ⟨ho9, e9, f9⟩ := hp
    have f9 := f9.symm
    subst f9
    have e9 := e9.symm
    subst e9
    refine wo_last hx hb hK hw 52 1 rfl rfl 0 rfl (by decide) (by decide) (show _ = wh ca ad oa (S, vp_updL f 0 (suV S nr bb wh9)) from rfl) dL_sum_8 (fun H locs hw => ?_)
    refine lv_goto (tgt := 16) hx hb dL_sum_9 (by decide) ?_
    refine lv_iconst (v := nI 0) hx hb dL_sum_16 (by decide) ?_
    exact W.iret (v := nI 0) hx hb hr (fun t ht hW => ⟨⟨nI 0, (S, vp_updL f 0 (suV S nr bb wh9)), rfl, Or.inl ⟨hok, rfl, rfl⟩, by rw [ht]; exact hw.1, va_K.moved hW.alike hK, hw.2.1⟩, hw.2.2.F ht⟩) hw.2.2.2.2 dL_sum_17 hlocks
  · skip
    refine tx_vX (As := [.int bb, .int wh9]) (rest := [.int (nI 0), .ref oa]) (kX5_sum l htr dC dI ca ad S bb wh9 nb nr hb6 hr2 hri) (by rintro A9 a9 st9 o9 t9 ⟨⟨r9, u9, -, h, -⟩, -⟩; exact hok h.1) ⟨hx, hb, hml, hown, hts⟩ (cwV 2 hts (wa_gV wd_524 wd_525 wd_526 wd_1 wd_527) rfl rfl rfl (by decide +kernel) ⟨Nat.le_of_ble_eq_true rfl, Nat.le_of_ble_eq_true rfl⟩) hK hZ hw hA 0 rfl rfl rfl rfl hl.1 rfl (Nat.le_of_ble_eq_true rfl) dL_sum_5 ⟨Nat.le_of_ble_eq_true rfl, Nat.le_of_ble_eq_true rfl⟩ (fun E S2 q H locs hp hw => ?_)
    obtain ⟨e9, ho9, f9⟩ := hp
    subst e9
    have f9 := f9.symm
    subst f9
    refine ⟨12, ⟨[], ⟨0, 9, 12, 23⟩, [], htab, rfl, by decide, by decide, hts _ wd_500, hZ.1 _ (by simp [ex_E]), (fun z hz => nomatch hz)⟩, ?_⟩
    have hw : wo_w (dC, dI) vwCl A s.heap (wh ca ad oa (S, f)) H locs := hw
    refine lv_astore (lv' := [(4, .ref q), (0, .ref (ad 0)), (1, .int bb), (2, .int wh9), (3, .ref oa)]) hx hb dL_sum_12 hl (by decide) rfl (fun ls hl => ?_)
    refine lv_iconst (v := nI 1) hx hb dL_sum_14 (by decide) ?_
    exact W.iret (v := nI 1) hx hb hr (fun t ht hW => ⟨⟨nI 1, (S, f), rfl, Or.inr (⟨ho9, rfl, rfl⟩), by rw [ht]; exact hw.1, va_K.moved hW.alike hK, hw.2.1⟩, hw.2.2.F ht⟩) hw.2.2.2.2 dL_sum_15 hlocks

set_option maxHeartbeats 4000000 in
set_option maxRecDepth 100000 in
theorem kL_lent (l : Launch) (htr : l.stackTraces = false) (dC : Nat → ClassId) (dI : Nat → Nat → Nat) (ca : Nat → ClassId) (ad : Nat → Nat) (oa : Nat) (S : sSt) (f : Nat → Int64) (rr : Int32) (nb nr : Nat) (hb6 : nb ≤ 6) (hr2 : nr ≤ 200) (hri : RI nb nr S) (sz : Nat) : Met l yL_lent (Cond.codeWith yL_lent cL_lent 4 (some .int) [(0, 8, 11, 23)] :: wa_T) ({ frames := 7, cells := 1, slots := 6, locals := 111 } : Room) (tx_P (dC, dI) vwCl (tyl ca) (wh ca ad oa (S, f)) sz [.ref (ad 0), .int rr, .ref oa]) (va_Qi (fun r X => (hrw S rr = true ∧ r = nI 0 ∧ X = (S, vp_updL f 0 (S.2 32 rr.toNatClampNeg))) ∨ (hrw S rr = false ∧ r = nI 1 ∧ X = (S, f))) (ct_B (dC, dI) vwCl (tyl ca) (wh ca ad oa) (va_A (wh ca ad oa (S, f)) sz)) (va_A (wh ca ad oa (S, f)) sz)) 1 6 (va_A (wh ca ad oa (S, f)) sz) := by
  refine va_MetW (cc := cL_lent) (maxL := 4) (ret := (some .int)) (hh := [(0, 8, 11, 23)]) (by decide) rfl ?_
  intro p e s m args below meth c s1 B hml hv
  obtain ⟨rfl, hsz, hP, hK, hD0, hZ⟩ := hv
  subst hsz
  have htab := tx_tab B (atoms_spec (ws := Cond.codeWith yL_lent cL_lent 4 (some .int) [(0, 8, 11, 23)] :: wa_T) B.pre _ List.mem_cons_self)
  have hl := lv_entry [.ref (ad 0), .int rr, .ref oa] (n := 4) (Nat.le_of_ble_eq_true rfl)
  rw [lg_entry_eq]
  have hts : ∀ w ∈ wa_T, w.before ([.ref (ad 0), .int rr, .ref oa] : List Value).toArray s = true := fun w h => atoms_spec (ws := Cond.codeWith yL_lent cL_lent 4 (some .int) [(0, 8, 11, 23)] :: wa_T) B.pre w (List.mem_cons_of_mem _ h)
  have hx := B.exec
  have hb := B.bytes
  have hr := B.returns
  have hown : s.vm.findClass "LentBoundsLaw" = some m.cls := findClass_of_methodNamed B.named
  have hlocks := B.notSynchronized
  generalize hAd : va_A (wh ca ad oa (S, f)) s.heap.size = A at hZ ⊢
  have hA : ∀ q, s.heap.size ≤ q → A q := fun q h => by rw [← hAd]; exact Or.inr h
  have hw : wo_w (dC, dI) vwCl A s.heap (wh ca ad oa (S, f)) s.heap [] := by rw [← hAd]; exact ⟨hP, hD0.self, va_S.rf⟩
  have hl : lv_has _ 4 [(0, .ref (ad 0)), (1, .int rr), (2, .ref oa)] := hl
  revert hl
  intro hl
  refine lv_aload_n hx hb dL_lent_0 rfl (lv_at hl 2 rfl) ?_
  refine lv_iconst (v := nI 0) hx hb dL_lent_1 (by decide) ?_
  refine lv_aload_n hx hb dL_lent_2 rfl (lv_at hl 0 rfl) ?_
  refine lv_iload_n hx hb dL_lent_3 rfl (lv_at hl 1 rfl) ?_
  have hw : wo_w (dC, dI) vwCl A s.heap ([] ++ (wc ca ad S ++ [(oa, .inl (ca 1, 1, .inr (.inl f)))])) s.heap [] := hw
  by_cases hok : hrw S rr = true
  · skip
    refine fw_L hw hA (va_runV (As := [.int rr]) (rest := [.int (nI 0), .ref oa]) ⟨hx, hb, hml, hown, hts⟩ (tx_norm (kX5_lent l htr dC dI ca ad S rr nb nr hb6 hr2 hri) (by intro E S2 h; rw [hok] at h; exact absurd h.2.1 (by decide)) s.heap.size) (cwV 1 hts (wa_gV wd_546 wd_547 wd_548 wd_1 wd_549) rfl rfl rfl (by decide +kernel) ⟨Nat.le_of_ble_eq_true rfl, Nat.le_of_ble_eq_true rfl⟩) (tx_preV hK hZ hw hA 0 rfl rfl [.int rr]) rfl rfl hl.1 rfl (lv_room (Nat.le_of_ble_eq_true rfl)) dL_lent_4 ⟨Nat.le_of_ble_eq_true rfl, Nat.le_of_ble_eq_true rfl⟩) (fun r S2 H locs hp hw => ?_)
    obtain ⟨ho9, e9, f9⟩ := hp
    have f9 := f9.symm
    subst f9
    have e9 := e9.symm
    subst e9
    refine wo_last hx hb hK hw 52 1 rfl rfl 0 rfl (by decide) (by decide) (show _ = wh ca ad oa (S, vp_updL f 0 (S.2 32 rr.toNatClampNeg)) from rfl) dL_lent_7 (fun H locs hw => ?_)
    refine lv_goto (tgt := 14) hx hb dL_lent_8 (by decide) ?_
    refine lv_iconst (v := nI 0) hx hb dL_lent_14 (by decide) ?_
    exact W.iret (v := nI 0) hx hb hr (fun t ht hW => ⟨⟨nI 0, (S, vp_updL f 0 (S.2 32 rr.toNatClampNeg)), rfl, Or.inl ⟨hok, rfl, rfl⟩, by rw [ht]; exact hw.1, va_K.moved hW.alike hK, hw.2.1⟩, hw.2.2.F ht⟩) hw.2.2.2.2 dL_lent_15 hlocks
  · skip
    refine tx_vX (As := [.int rr]) (rest := [.int (nI 0), .ref oa]) (kX5_lent l htr dC dI ca ad S rr nb nr hb6 hr2 hri) (by rintro A9 a9 st9 o9 t9 ⟨⟨r9, u9, -, h, -⟩, -⟩; exact hok h.1) ⟨hx, hb, hml, hown, hts⟩ (cwV 1 hts (wa_gV wd_546 wd_547 wd_548 wd_1 wd_549) rfl rfl rfl (by decide +kernel) ⟨Nat.le_of_ble_eq_true rfl, Nat.le_of_ble_eq_true rfl⟩) hK hZ hw hA 0 rfl rfl rfl rfl hl.1 rfl (Nat.le_of_ble_eq_true rfl) dL_lent_4 ⟨Nat.le_of_ble_eq_true rfl, Nat.le_of_ble_eq_true rfl⟩ (fun E S2 q H locs hp hw => ?_)
    obtain ⟨e9, ho9, f9⟩ := hp
    subst e9
    have f9 := f9.symm
    subst f9
    refine ⟨11, ⟨[], ⟨0, 8, 11, 23⟩, [], htab, rfl, by decide, by decide, hts _ wd_500, hZ.1 _ (by simp [ex_E]), (fun z hz => nomatch hz)⟩, ?_⟩
    have hw : wo_w (dC, dI) vwCl A s.heap (wh ca ad oa (S, f)) H locs := hw
    refine lv_astore_n (lv' := [(3, .ref q), (0, .ref (ad 0)), (1, .int rr), (2, .ref oa)]) hx hb dL_lent_11 rfl hl (by decide) rfl (fun ls hl => ?_)
    refine lv_iconst (v := nI 1) hx hb dL_lent_12 (by decide) ?_
    exact W.iret (v := nI 1) hx hb hr (fun t ht hW => ⟨⟨nI 1, (S, f), rfl, Or.inr (⟨ho9, rfl, rfl⟩), by rw [ht]; exact hw.1, va_K.moved hW.alike hK, hw.2.1⟩, hw.2.2.F ht⟩) hw.2.2.2.2 dL_lent_13 hlocks

set_option maxHeartbeats 4000000 in
set_option maxRecDepth 100000 in
theorem kL_waits (l : Launch) (htr : l.stackTraces = false) (dC : Nat → ClassId) (dI : Nat → Nat → Nat) (ca : Nat → ClassId) (ad : Nat → Nat) (oa : Nat) (S : sSt) (f : Nat → Int64) (pp : Int32) (kk : Int32) (nb nr : Nat) (hb6 : nb ≤ 6) (hr2 : nr ≤ 200) (hri : RI nb nr S) (sz : Nat) : Met l yL_waits (Cond.codeWith yL_waits cL_waits 5 (some .int) [(0, 9, 12, 23)] :: wa_T) ({ frames := 7, cells := 1, slots := 6, locals := 112 } : Room) (tx_P (dC, dI) vwCl (tyl ca) (wh ca ad oa (S, f)) sz [.ref (ad 0), .int pp, .int kk, .ref oa]) (va_Qi (fun r X => (waOk S pp kk = true ∧ r = nI 0 ∧ X = (S, vp_updL f 0 (waV S pp kk))) ∨ (waOk S pp kk = false ∧ r = nI 1 ∧ X = (S, f))) (ct_B (dC, dI) vwCl (tyl ca) (wh ca ad oa) (va_A (wh ca ad oa (S, f)) sz)) (va_A (wh ca ad oa (S, f)) sz)) 1 6 (va_A (wh ca ad oa (S, f)) sz) := by
  refine va_MetW (cc := cL_waits) (maxL := 5) (ret := (some .int)) (hh := [(0, 9, 12, 23)]) (by decide) rfl ?_
  intro p e s m args below meth c s1 B hml hv
  obtain ⟨rfl, hsz, hP, hK, hD0, hZ⟩ := hv
  subst hsz
  have htab := tx_tab B (atoms_spec (ws := Cond.codeWith yL_waits cL_waits 5 (some .int) [(0, 9, 12, 23)] :: wa_T) B.pre _ List.mem_cons_self)
  have hl := lv_entry [.ref (ad 0), .int pp, .int kk, .ref oa] (n := 5) (Nat.le_of_ble_eq_true rfl)
  rw [lg_entry_eq]
  have hts : ∀ w ∈ wa_T, w.before ([.ref (ad 0), .int pp, .int kk, .ref oa] : List Value).toArray s = true := fun w h => atoms_spec (ws := Cond.codeWith yL_waits cL_waits 5 (some .int) [(0, 9, 12, 23)] :: wa_T) B.pre w (List.mem_cons_of_mem _ h)
  have hx := B.exec
  have hb := B.bytes
  have hr := B.returns
  have hown : s.vm.findClass "LentBoundsLaw" = some m.cls := findClass_of_methodNamed B.named
  have hlocks := B.notSynchronized
  generalize hAd : va_A (wh ca ad oa (S, f)) s.heap.size = A at hZ ⊢
  have hA : ∀ q, s.heap.size ≤ q → A q := fun q h => by rw [← hAd]; exact Or.inr h
  have hw : wo_w (dC, dI) vwCl A s.heap (wh ca ad oa (S, f)) s.heap [] := by rw [← hAd]; exact ⟨hP, hD0.self, va_S.rf⟩
  have hl : lv_has _ 5 [(0, .ref (ad 0)), (1, .int pp), (2, .int kk), (3, .ref oa)] := hl
  revert hl
  intro hl
  refine lv_aload_n hx hb dL_waits_0 rfl (lv_at hl 3 rfl) ?_
  refine lv_iconst (v := nI 0) hx hb dL_waits_1 (by decide) ?_
  refine lv_aload_n hx hb dL_waits_2 rfl (lv_at hl 0 rfl) ?_
  refine lv_iload_n hx hb dL_waits_3 rfl (lv_at hl 1 rfl) ?_
  refine lv_iload_n hx hb dL_waits_4 rfl (lv_at hl 2 rfl) ?_
  have hw : wo_w (dC, dI) vwCl A s.heap ([] ++ (wc ca ad S ++ [(oa, .inl (ca 1, 1, .inr (.inl f)))])) s.heap [] := hw
  by_cases hok : waOk S pp kk = true
  · skip
    refine fw_L hw hA (va_runV (As := [.int pp, .int kk]) (rest := [.int (nI 0), .ref oa]) ⟨hx, hb, hml, hown, hts⟩ (tx_norm (kX5_waits l htr dC dI ca ad S pp kk nb nr hb6 hr2 hri) (by intro E S2 h; rw [hok] at h; exact absurd h.2.1 (by decide)) s.heap.size) (cwV 2 hts (wa_gV wd_554 wd_555 wd_556 wd_1 wd_557) rfl rfl rfl (by decide +kernel) ⟨Nat.le_of_ble_eq_true rfl, Nat.le_of_ble_eq_true rfl⟩) (tx_preV hK hZ hw hA 0 rfl rfl [.int pp, .int kk]) rfl rfl hl.1 rfl (lv_room (Nat.le_of_ble_eq_true rfl)) dL_waits_5 ⟨Nat.le_of_ble_eq_true rfl, Nat.le_of_ble_eq_true rfl⟩) (fun r S2 H locs hp hw => ?_)
    obtain ⟨ho9, e9, f9⟩ := hp
    have f9 := f9.symm
    subst f9
    have e9 := e9.symm
    subst e9
    refine wo_last hx hb hK hw 52 1 rfl rfl 0 rfl (by decide) (by decide) (show _ = wh ca ad oa (S, vp_updL f 0 (waV S pp kk)) from rfl) dL_waits_8 (fun H locs hw => ?_)
    refine lv_goto (tgt := 16) hx hb dL_waits_9 (by decide) ?_
    refine lv_iconst (v := nI 0) hx hb dL_waits_16 (by decide) ?_
    exact W.iret (v := nI 0) hx hb hr (fun t ht hW => ⟨⟨nI 0, (S, vp_updL f 0 (waV S pp kk)), rfl, Or.inl ⟨hok, rfl, rfl⟩, by rw [ht]; exact hw.1, va_K.moved hW.alike hK, hw.2.1⟩, hw.2.2.F ht⟩) hw.2.2.2.2 dL_waits_17 hlocks
  · skip
    refine tx_vX (As := [.int pp, .int kk]) (rest := [.int (nI 0), .ref oa]) (kX5_waits l htr dC dI ca ad S pp kk nb nr hb6 hr2 hri) (by rintro A9 a9 st9 o9 t9 ⟨⟨r9, u9, -, h, -⟩, -⟩; exact hok h.1) ⟨hx, hb, hml, hown, hts⟩ (cwV 2 hts (wa_gV wd_554 wd_555 wd_556 wd_1 wd_557) rfl rfl rfl (by decide +kernel) ⟨Nat.le_of_ble_eq_true rfl, Nat.le_of_ble_eq_true rfl⟩) hK hZ hw hA 0 rfl rfl rfl rfl hl.1 rfl (Nat.le_of_ble_eq_true rfl) dL_waits_5 ⟨Nat.le_of_ble_eq_true rfl, Nat.le_of_ble_eq_true rfl⟩ (fun E S2 q H locs hp hw => ?_)
    obtain ⟨e9, ho9, f9⟩ := hp
    subst e9
    have f9 := f9.symm
    subst f9
    refine ⟨12, ⟨[], ⟨0, 9, 12, 23⟩, [], htab, rfl, by decide, by decide, hts _ wd_500, hZ.1 _ (by simp [ex_E]), (fun z hz => nomatch hz)⟩, ?_⟩
    have hw : wo_w (dC, dI) vwCl A s.heap (wh ca ad oa (S, f)) H locs := hw
    refine lv_astore (lv' := [(4, .ref q), (0, .ref (ad 0)), (1, .int pp), (2, .int kk), (3, .ref oa)]) hx hb dL_waits_12 hl (by decide) rfl (fun ls hl => ?_)
    refine lv_iconst (v := nI 1) hx hb dL_waits_14 (by decide) ?_
    exact W.iret (v := nI 1) hx hb hr (fun t ht hW => ⟨⟨nI 1, (S, f), rfl, Or.inr (⟨ho9, rfl, rfl⟩), by rw [ht]; exact hw.1, va_K.moved hW.alike hK, hw.2.1⟩, hw.2.2.F ht⟩) hw.2.2.2.2 dL_waits_15 hlocks

set_option maxHeartbeats 4000000 in
set_option maxRecDepth 100000 in
theorem kL_bound (l : Launch) (htr : l.stackTraces = false) (dC : Nat → ClassId) (dI : Nat → Nat → Nat) (ca : Nat → ClassId) (ad : Nat → Nat) (oa : Nat) (S : sSt) (f : Nat → Int64) (fl : Int64) (va : Int64) (ce : Int64) (nb nr : Nat) (hb6 : nb ≤ 6) (hr2 : nr ≤ 200) (hri : RI nb nr S) (sz : Nat) : Met l yL_bound (Cond.codeWith yL_bound cL_bound 9 (some .int) [(0, 13, 16, 13), (0, 13, 20, 15), (0, 13, 24, 17)] :: wa_T) ({ frames := 7, cells := 1, slots := 6, locals := 117 } : Room) (tx_P (dC, dI) vwCl (tyl ca) (wh ca ad oa (S, f)) sz [.ref (ad 0), .long fl, .long va, .long ce, .ref oa]) (va_Qi (fun r X => ((ordOk fl va ce = true ∧ ¬ sumW (uow S 6) 6 = 0 ∧ nb < 6) ∧ r = nI 0 ∧ X = (bdS S nb fl va ce, vp_updL f 0 ((nI nb).toInt64))) ∨ (ordOk fl va ce = false ∧ r = nI 1 ∧ X = (S, f)) ∨ ((ordOk fl va ce = true ∧ sumW (uow S 6) 6 = 0) ∧ r = nI 2 ∧ X = (uow S 6, f)) ∨ ((ordOk fl va ce = true ∧ ¬ sumW (uow S 6) 6 = 0 ∧ ¬ nb < 6) ∧ r = nI 3 ∧ X = (uow S 6, f))) (ct_B (dC, dI) vwCl (tyl ca) (wh ca ad oa) (va_A (wh ca ad oa (S, f)) sz)) (va_A (wh ca ad oa (S, f)) sz)) 1 6 (va_A (wh ca ad oa (S, f)) sz) := by
  refine va_MetW (cc := cL_bound) (maxL := 9) (ret := (some .int)) (hh := [(0, 13, 16, 13), (0, 13, 20, 15), (0, 13, 24, 17)]) (by decide) rfl ?_
  intro p e s m args below meth c s1 B hml hv
  obtain ⟨rfl, hsz, hP, hK, hD0, hZ⟩ := hv
  subst hsz
  have htab := tx_tab B (atoms_spec (ws := Cond.codeWith yL_bound cL_bound 9 (some .int) [(0, 13, 16, 13), (0, 13, 20, 15), (0, 13, 24, 17)] :: wa_T) B.pre _ List.mem_cons_self)
  have hl := lv_entry [.ref (ad 0), .long fl, .long va, .long ce, .ref oa] (n := 9) (Nat.le_of_ble_eq_true rfl)
  rw [lg_entry_eq]
  have hts : ∀ w ∈ wa_T, w.before ([.ref (ad 0), .long fl, .long va, .long ce, .ref oa] : List Value).toArray s = true := fun w h => atoms_spec (ws := Cond.codeWith yL_bound cL_bound 9 (some .int) [(0, 13, 16, 13), (0, 13, 20, 15), (0, 13, 24, 17)] :: wa_T) B.pre w (List.mem_cons_of_mem _ h)
  have hx := B.exec
  have hb := B.bytes
  have hr := B.returns
  have hown : s.vm.findClass "LentBoundsLaw" = some m.cls := findClass_of_methodNamed B.named
  have hlocks := B.notSynchronized
  generalize hAd : va_A (wh ca ad oa (S, f)) s.heap.size = A at hZ ⊢
  have hA : ∀ q, s.heap.size ≤ q → A q := fun q h => by rw [← hAd]; exact Or.inr h
  have hw : wo_w (dC, dI) vwCl A s.heap (wh ca ad oa (S, f)) s.heap [] := by rw [← hAd]; exact ⟨hP, hD0.self, va_S.rf⟩
  have hl : lv_has _ 9 [(0, .ref (ad 0)), (1, .long fl), (3, .long va), (5, .long ce), (7, .ref oa)] := hl
  revert hl
  intro hl
  refine lv_aload hx hb dL_bound_0 (lv_at hl 4 rfl) ?_
  refine lv_iconst (v := nI 0) hx hb dL_bound_2 (by decide) ?_
  refine lv_aload_n hx hb dL_bound_3 rfl (lv_at hl 0 rfl) ?_
  refine lv_lload_n hx hb dL_bound_4 rfl (lv_at hl 1 rfl) ?_
  refine lv_lload_n hx hb dL_bound_5 rfl (lv_at hl 2 rfl) ?_
  refine lv_lload hx hb dL_bound_6 (lv_at hl 3 rfl) ?_
  have hw : wo_w (dC, dI) vwCl A s.heap ([] ++ (wc ca ad S ++ [(oa, .inl (ca 1, 1, .inr (.inl f)))])) s.heap [] := hw
  by_cases hok : (ordOk fl va ce = true ∧ ¬ sumW (uow S 6) 6 = 0 ∧ nb < 6)
  · skip
    refine fw_I hw hA (va_runV (As := [.long fl, .long va, .long ce]) (rest := [.int (nI 0), .ref oa]) ⟨hx, hb, hml, hown, hts⟩ (tx_norm (kX5_bound l htr dC dI ca ad S fl va ce nb nr hb6 hr2 hri) (by exact fun E S2 h => h.elim (fun h => absurd (hok.1.symm.trans h.2.1) (by decide)) (fun h => h.elim (fun h => hok.2.1 h.2.1.2) (fun h => h.2.1.2.2 hok.2.2))) s.heap.size) (cwV 3 hts (wa_gV wd_373 wd_374 wd_375 wd_1 wd_376) rfl rfl rfl (by decide +kernel) ⟨Nat.le_of_ble_eq_true rfl, Nat.le_of_ble_eq_true rfl⟩) (tx_preV hK hZ hw hA 0 rfl rfl [.long fl, .long va, .long ce]) rfl rfl hl.1 rfl (lv_room (Nat.le_of_ble_eq_true rfl)) dL_bound_8 ⟨Nat.le_of_ble_eq_true rfl, Nat.le_of_ble_eq_true rfl⟩) (fun r S2 H locs hp hw => ?_)
    obtain ⟨ho9, e9, f9⟩ := hp
    have f9 := f9.symm
    subst f9
    have e9 := e9.symm
    subst e9
    refine lv_i2l hx hb dL_bound_11 rfl ?_
    refine wo_last hx hb hK hw 52 1 rfl rfl 0 rfl (by decide) (by decide) (show _ = wh ca ad oa (bdS S nb fl va ce, vp_updL f 0 ((nI nb).toInt64)) from rfl) dL_bound_12 (fun H locs hw => ?_)
    refine lv_goto (tgt := 28) hx hb dL_bound_13 (by decide) ?_
    refine lv_iconst (v := nI 0) hx hb dL_bound_28 (by decide) ?_
    exact W.iret (v := nI 0) hx hb hr (fun t ht hW => ⟨⟨nI 0, (bdS S nb fl va ce, vp_updL f 0 ((nI nb).toInt64)), rfl, Or.inl ⟨hok, rfl, rfl⟩, by rw [ht]; exact hw.1, va_K.moved hW.alike hK, hw.2.1⟩, hw.2.2.F ht⟩) hw.2.2.2.2 dL_bound_29 hlocks
  · skip
    refine tx_vX (As := [.long fl, .long va, .long ce]) (rest := [.int (nI 0), .ref oa]) (kX5_bound l htr dC dI ca ad S fl va ce nb nr hb6 hr2 hri) (by rintro A9 a9 st9 o9 t9 ⟨⟨r9, u9, -, h, -⟩, -⟩; exact hok h.1) ⟨hx, hb, hml, hown, hts⟩ (cwV 3 hts (wa_gV wd_373 wd_374 wd_375 wd_1 wd_376) rfl rfl rfl (by decide +kernel) ⟨Nat.le_of_ble_eq_true rfl, Nat.le_of_ble_eq_true rfl⟩) hK hZ hw hA 0 rfl rfl rfl rfl hl.1 rfl (Nat.le_of_ble_eq_true rfl) dL_bound_8 ⟨Nat.le_of_ble_eq_true rfl, Nat.le_of_ble_eq_true rfl⟩ (fun E S2 q H locs hp hw => ?_)
    rcases hp with ⟨e9, ho9, f9⟩ | ⟨e9, ho9, f9⟩ | ⟨e9, ho9, f9⟩
    · skip
      subst e9
      have f9 := f9.symm
      subst f9
      refine ⟨16, ⟨[], ⟨0, 13, 16, 13⟩, [⟨0, 13, 20, 15⟩, ⟨0, 13, 24, 17⟩], htab, rfl, by decide, by decide, hts _ wd_370, hZ.1 _ (by simp [ex_E]), (fun z hz => nomatch hz)⟩, ?_⟩
      have hw : wo_w (dC, dI) vwCl A s.heap (wh ca ad oa (S, f)) H locs := hw
      refine lv_astore (lv' := [(8, .ref q), (0, .ref (ad 0)), (1, .long fl), (3, .long va), (5, .long ce), (7, .ref oa)]) hx hb dL_bound_16 hl (by decide) rfl (fun ls hl => ?_)
      refine lv_iconst (v := nI 1) hx hb dL_bound_18 (by decide) ?_
      exact W.iret (v := nI 1) hx hb hr (fun t ht hW => ⟨⟨nI 1, (S, f), rfl, Or.inr (Or.inl ⟨ho9, rfl, rfl⟩), by rw [ht]; exact hw.1, va_K.moved hW.alike hK, hw.2.1⟩, hw.2.2.F ht⟩) hw.2.2.2.2 dL_bound_19 hlocks
    · skip
      subst e9
      have f9 := f9.symm
      subst f9
      refine ⟨20, ⟨[⟨0, 13, 16, 13⟩], ⟨0, 13, 20, 15⟩, [⟨0, 13, 24, 17⟩], htab, rfl, by decide, by decide, hts _ wd_371, hZ.1 _ (by simp [ex_E]), (by intro z hz; simp only [List.mem_cons, List.not_mem_nil, or_false] at hz; subst hz; exact ⟨by decide, "java/lang/IllegalArgumentException", hts _ wd_370, hZ.2.2.1 ("java/lang/ArithmeticException", "java/lang/IllegalArgumentException") (by simp [ex_N])⟩)⟩, ?_⟩
      have hw : wo_w (dC, dI) vwCl A s.heap (wh ca ad oa (uow S 6, f)) H locs := hw
      refine lv_astore (lv' := [(8, .ref q), (0, .ref (ad 0)), (1, .long fl), (3, .long va), (5, .long ce), (7, .ref oa)]) hx hb dL_bound_20 hl (by decide) rfl (fun ls hl => ?_)
      refine lv_iconst (v := nI 2) hx hb dL_bound_22 (by decide) ?_
      exact W.iret (v := nI 2) hx hb hr (fun t ht hW => ⟨⟨nI 2, (uow S 6, f), rfl, Or.inr (Or.inr (Or.inl ⟨ho9, rfl, rfl⟩)), by rw [ht]; exact hw.1, va_K.moved hW.alike hK, hw.2.1⟩, hw.2.2.F ht⟩) hw.2.2.2.2 dL_bound_23 hlocks
    · skip
      subst e9
      have f9 := f9.symm
      subst f9
      refine ⟨24, ⟨[⟨0, 13, 16, 13⟩, ⟨0, 13, 20, 15⟩], ⟨0, 13, 24, 17⟩, [], htab, rfl, by decide, by decide, hts _ wd_372, hZ.1 _ (by simp [ex_E]), (fun z hz => by
          simp only [List.mem_cons, List.not_mem_nil, or_false] at hz
          rcases hz with rfl | rfl
          · exact ⟨by decide, "java/lang/IllegalArgumentException", hts _ wd_370, hZ.2.2.1 ("java/lang/IllegalStateException", "java/lang/IllegalArgumentException") (by simp [ex_N])⟩
          · exact ⟨by decide, "java/lang/ArithmeticException", hts _ wd_371, hZ.2.2.1 ("java/lang/IllegalStateException", "java/lang/ArithmeticException") (by simp [ex_N])⟩)⟩, ?_⟩
      have hw : wo_w (dC, dI) vwCl A s.heap (wh ca ad oa (uow S 6, f)) H locs := hw
      refine lv_astore (lv' := [(8, .ref q), (0, .ref (ad 0)), (1, .long fl), (3, .long va), (5, .long ce), (7, .ref oa)]) hx hb dL_bound_24 hl (by decide) rfl (fun ls hl => ?_)
      refine lv_iconst (v := nI 3) hx hb dL_bound_26 (by decide) ?_
      exact W.iret (v := nI 3) hx hb hr (fun t ht hW => ⟨⟨nI 3, (uow S 6, f), rfl, Or.inr (Or.inr (Or.inr (⟨ho9, rfl, rfl⟩))), by rw [ht]; exact hw.1, va_K.moved hW.alike hK, hw.2.1⟩, hw.2.2.F ht⟩) hw.2.2.2.2 dL_bound_27 hlocks
