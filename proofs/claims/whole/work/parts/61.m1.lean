theorem dX6_thrown_0 : decode cX6_thrown 0 = .ok (.aload_n 0, 1) := by decide +kernel
theorem dX6_thrown_1 : decode cX6_thrown 1 = .ok (.getfield 78, 3) := by decide +kernel
theorem dX6_thrown_4 : decode cX6_thrown 4 = .ok (.ireturn, 1) := by decide +kernel

theorem dX6_raise_0 : decode cX6_raise 0 = .ok (.aload_n 0, 1) := by decide +kernel
theorem dX6_raise_1 : decode cX6_raise 1 = .ok (.iload_n 1, 1) := by decide +kernel
theorem dX6_raise_2 : decode cX6_raise 2 = .ok (.putfield 78, 3) := by decide +kernel
theorem dX6_raise_5 : decode cX6_raise 5 = .ok (.iconst 0, 1) := by decide +kernel
theorem dX6_raise_6 : decode cX6_raise 6 = .ok (.ireturn, 1) := by decide +kernel

theorem dX6_within_0 : decode cX6_within 0 = .ok (.lload_n 0, 1) := by decide +kernel
theorem dX6_within_1 : decode cX6_within 1 = .ok (.lload_n 2, 1) := by decide +kernel
theorem dX6_within_2 : decode cX6_within 2 = .ok (.lcmp, 1) := by decide +kernel
theorem dX6_within_3 : decode cX6_within 3 = .ok (.ifCond .lt 14, 3) := by decide +kernel
theorem dX6_within_6 : decode cX6_within 6 = .ok (.lload_n 0, 1) := by decide +kernel
theorem dX6_within_7 : decode cX6_within 7 = .ok (.lload 4, 2) := by decide +kernel
theorem dX6_within_9 : decode cX6_within 9 = .ok (.lcmp, 1) := by decide +kernel
theorem dX6_within_10 : decode cX6_within 10 = .ok (.ifCond .gt 7, 3) := by decide +kernel
theorem dX6_within_13 : decode cX6_within 13 = .ok (.iconst 1, 1) := by decide +kernel
theorem dX6_within_14 : decode cX6_within 14 = .ok (.goto 4, 3) := by decide +kernel
theorem dX6_within_17 : decode cX6_within 17 = .ok (.iconst 0, 1) := by decide +kernel
theorem dX6_within_18 : decode cX6_within 18 = .ok (.ireturn, 1) := by decide +kernel

theorem dX6_at_0 : decode cX6_at 0 = .ok (.bipush 12, 2) := by decide +kernel
theorem dX6_at_2 : decode cX6_at 2 = .ok (.iload_n 0, 1) := by decide +kernel
theorem dX6_at_3 : decode cX6_at 3 = .ok (.imul, 1) := by decide +kernel
theorem dX6_at_4 : decode cX6_at 4 = .ok (.bipush 6, 2) := by decide +kernel
theorem dX6_at_6 : decode cX6_at 6 = .ok (.iload_n 1, 1) := by decide +kernel
theorem dX6_at_7 : decode cX6_at 7 = .ok (.imul, 1) := by decide +kernel
theorem dX6_at_8 : decode cX6_at 8 = .ok (.iadd, 1) := by decide +kernel
theorem dX6_at_9 : decode cX6_at 9 = .ok (.iload_n 2, 1) := by decide +kernel
theorem dX6_at_10 : decode cX6_at 10 = .ok (.iadd, 1) := by decide +kernel
theorem dX6_at_11 : decode cX6_at 11 = .ok (.ireturn, 1) := by decide +kernel

theorem dX6_isWell_0 : decode cX6_isWell 0 = .ok (.iload_n 1, 1) := by decide +kernel
theorem dX6_isWell_1 : decode cX6_isWell 1 = .ok (.i2l, 1) := by decide +kernel
theorem dX6_isWell_2 : decode cX6_isWell 2 = .ok (.lconst 0, 1) := by decide +kernel
theorem dX6_isWell_3 : decode cX6_isWell 3 = .ok (.ldc2_w 82, 3) := by decide +kernel
theorem dX6_isWell_6 : decode cX6_isWell 6 = .ok (.invokestatic 84, 3) := by decide +kernel
theorem dX6_isWell_9 : decode cX6_isWell 9 = .ok (.ifCond .eq 16, 3) := by decide +kernel
theorem dX6_isWell_12 : decode cX6_isWell 12 = .ok (.aload_n 0, 1) := by decide +kernel
theorem dX6_isWell_13 : decode cX6_isWell 13 = .ok (.getfield 25, 3) := by decide +kernel
theorem dX6_isWell_16 : decode cX6_isWell 16 = .ok (.iload_n 1, 1) := by decide +kernel
theorem dX6_isWell_17 : decode cX6_isWell 17 = .ok (.iaload, 1) := by decide +kernel
theorem dX6_isWell_18 : decode cX6_isWell 18 = .ok (.ifCond .ne 7, 3) := by decide +kernel
theorem dX6_isWell_21 : decode cX6_isWell 21 = .ok (.iconst 1, 1) := by decide +kernel
theorem dX6_isWell_22 : decode cX6_isWell 22 = .ok (.goto 4, 3) := by decide +kernel
theorem dX6_isWell_25 : decode cX6_isWell 25 = .ok (.iconst 0, 1) := by decide +kernel
theorem dX6_isWell_26 : decode cX6_isWell 26 = .ok (.ireturn, 1) := by decide +kernel

theorem dX6_isBound_0 : decode cX6_isBound 0 = .ok (.iload_n 1, 1) := by decide +kernel
theorem dX6_isBound_1 : decode cX6_isBound 1 = .ok (.i2l, 1) := by decide +kernel
theorem dX6_isBound_2 : decode cX6_isBound 2 = .ok (.lconst 0, 1) := by decide +kernel
theorem dX6_isBound_3 : decode cX6_isBound 3 = .ok (.aload_n 0, 1) := by decide +kernel
theorem dX6_isBound_4 : decode cX6_isBound 4 = .ok (.getfield 88, 3) := by decide +kernel
theorem dX6_isBound_7 : decode cX6_isBound 7 = .ok (.i2l, 1) := by decide +kernel
theorem dX6_isBound_8 : decode cX6_isBound 8 = .ok (.lconst 1, 1) := by decide +kernel
theorem dX6_isBound_9 : decode cX6_isBound 9 = .ok (.lsub, 1) := by decide +kernel
theorem dX6_isBound_10 : decode cX6_isBound 10 = .ok (.invokestatic 84, 3) := by decide +kernel
theorem dX6_isBound_13 : decode cX6_isBound 13 = .ok (.ireturn, 1) := by decide +kernel

theorem dX6_isRow_0 : decode cX6_isRow 0 = .ok (.iload_n 1, 1) := by decide +kernel
theorem dX6_isRow_1 : decode cX6_isRow 1 = .ok (.i2l, 1) := by decide +kernel
theorem dX6_isRow_2 : decode cX6_isRow 2 = .ok (.lconst 1, 1) := by decide +kernel
theorem dX6_isRow_3 : decode cX6_isRow 3 = .ok (.aload_n 0, 1) := by decide +kernel
theorem dX6_isRow_4 : decode cX6_isRow 4 = .ok (.getfield 130, 3) := by decide +kernel
theorem dX6_isRow_7 : decode cX6_isRow 7 = .ok (.i2l, 1) := by decide +kernel
theorem dX6_isRow_8 : decode cX6_isRow 8 = .ok (.invokestatic 84, 3) := by decide +kernel
theorem dX6_isRow_11 : decode cX6_isRow 11 = .ok (.ireturn, 1) := by decide +kernel

set_option maxHeartbeats 4000000 in
set_option maxRecDepth 100000 in
theorem kX6_thrown (l : Launch) (dC : Nat → ClassId) (dI : Nat → Nat → Nat) (ca : Nat → ClassId) (ad : Nat → Nat) (S : sSt)  : ct_I l yX6_thrown (Cond.code yX6_thrown cX6_thrown 1 (some .int) :: wa_T) ({ frames := 0, cells := 0, slots := 0, locals := 0 } : Room) (dC, dI) vwCl (tyl ca) (wq ca ad) S [.ref (ad 0)] (fun r S2 => r = S.1 0 0 ∧ S2 = S) := by
  refine ct_ofI (by decide) (Nat.le_of_ble_eq_true rfl) ?_
  intro p e s m below meth c A ls hx hb hr hml hts hown hlocks hK hA hw hl
  have hl : lv_has ls 1 [(0, .ref (ad 0))] := hl
  refine lv_aload_n hx hb dX6_thrown_0 rfl (lv_at hl 0 rfl) ?_
  refine wo_get hx hb hts inX6 hown hK hw 0 rfl rfl 0 (by decide) (hts _ wd_565) (fun _ h9 => h9) rfl dX6_thrown_1 ?_
  exact ct_iret (S := S) (v := S.1 0 0) hx hb hr hlocks hK hw (⟨rfl, rfl⟩) dX6_thrown_4

set_option maxHeartbeats 4000000 in
set_option maxRecDepth 100000 in
theorem kX6_raise (l : Launch) (dC : Nat → ClassId) (dI : Nat → Nat → Nat) (ca : Nat → ClassId) (ad : Nat → Nat) (S : sSt) (cc0 : Int32) : ct_I l yX6_raise (Cond.code yX6_raise cX6_raise 2 (some .int) :: wa_T) ({ frames := 0, cells := 0, slots := 0, locals := 0 } : Room) (dC, dI) vwCl (tyl ca) (wq ca ad) S [.ref (ad 0), .int cc0] (fun r S2 => r = nI 0 ∧ S2 = sI S 0 0 cc0) := by
  refine ct_ofI (by decide) (Nat.le_of_ble_eq_true rfl) ?_
  intro p e s m below meth c A ls hx hb hr hml hts hown hlocks hK hA hw hl
  have hl : lv_has ls 2 [(0, .ref (ad 0)), (1, .int cc0)] := hl
  refine lv_aload_n hx hb dX6_raise_0 rfl (lv_at hl 0 rfl) ?_
  refine lv_iload_n hx hb dX6_raise_1 rfl (lv_at hl 1 rfl) ?_
  refine wo_put (ty := .int) (v := .int cc0) hx hb hts inX6 tyX6 tyX6_ok nmX6 hown hK hw 0 rfl rfl 0 (by decide) (hts _ wd_565) (fun _ h9 => h9) rfl (by decide +kernel) rfl rfl (Nat.le_of_ble_eq_true rfl) (sg_0 ca ad S cc0) dX6_raise_2 (fun H locs hw => ?_)
  refine lv_iconst (v := nI 0) hx hb dX6_raise_5 (by decide) ?_
  exact ct_iret (S := sI S 0 0 cc0) (v := nI 0) hx hb hr hlocks hK hw (⟨rfl, rfl⟩) dX6_raise_6

set_option maxHeartbeats 4000000 in
set_option maxRecDepth 100000 in
theorem kX6_within (l : Launch) (dC : Nat → ClassId) (dI : Nat → Nat → Nat) (ca : Nat → ClassId) (ad : Nat → Nat) (S : sSt) (xx : Int64) (lo : Int64) (hh : Int64) : ct_I l yX6_within (Cond.code yX6_within cX6_within 6 (some .boolean) :: wa_T) ({ frames := 0, cells := 0, slots := 0, locals := 0 } : Room) (dC, dI) vwCl (tyl ca) (wq ca ad) S [.long xx, .long lo, .long hh] (fun r S2 => r = bI (wth xx lo hh) ∧ S2 = S) := by
  refine ct_ofI (by decide) (Nat.le_of_ble_eq_true rfl) ?_
  intro p e s m below meth c A ls hx hb hr hml hts hown hlocks hK hA hw hl
  have hl : lv_has ls 6 [(0, .long xx), (2, .long lo), (4, .long hh)] := hl
  refine lv_lload_n hx hb dX6_within_0 rfl (lv_at hl 0 rfl) ?_
  refine lv_lload_n hx hb dX6_within_1 rfl (lv_at hl 1 rfl) ?_
  refine lc_lt (tgt := 17) hx hb dX6_within_2 dX6_within_3 (by decide) (fun c_1 => ?_) (fun c_1 => ?_)
  · skip
    refine lv_iconst (v := nI 0) hx hb dX6_within_17 (by decide) ?_
    exact ct_zret (S := S) (v := nI 0) hx hb hr hlocks hK (by first | decide | exact nb_z _) hw (⟨by simp only [bI, wth, c_1, decide_true, decide_false, Bool.not_true, Bool.not_false, Bool.true_and, Bool.and_true, Bool.false_and, Bool.and_false, Bool.or_true, Bool.true_or, Bool.or_false, Bool.false_or, Bool.false_eq_true, Bool.true_eq_false, if_true, if_false, ↓reduceIte], rfl⟩) dX6_within_18
  · skip
    refine lv_lload_n hx hb dX6_within_6 rfl (lv_at hl 0 rfl) ?_
    refine lv_lload hx hb dX6_within_7 (lv_at hl 2 rfl) ?_
    refine lc_gt (tgt := 17) hx hb dX6_within_9 dX6_within_10 (by decide) (fun c_2 => ?_) (fun c_2 => ?_)
    · skip
      refine lv_iconst (v := nI 0) hx hb dX6_within_17 (by decide) ?_
      exact ct_zret (S := S) (v := nI 0) hx hb hr hlocks hK (by first | decide | exact nb_z _) hw (⟨by simp only [bI, wth, c_1, c_2, decide_true, decide_false, Bool.not_true, Bool.not_false, Bool.true_and, Bool.and_true, Bool.false_and, Bool.and_false, Bool.or_true, Bool.true_or, Bool.or_false, Bool.false_or, Bool.false_eq_true, Bool.true_eq_false, if_true, if_false, ↓reduceIte], rfl⟩) dX6_within_18
    · skip
      refine lv_iconst (v := nI 1) hx hb dX6_within_13 (by decide) ?_
      refine lv_goto (tgt := 18) hx hb dX6_within_14 (by decide) ?_
      exact ct_zret (S := S) (v := nI 1) hx hb hr hlocks hK (by first | decide | exact nb_z _) hw (⟨by simp only [bI, wth, c_1, c_2, decide_true, decide_false, Bool.not_true, Bool.not_false, Bool.true_and, Bool.and_true, Bool.false_and, Bool.and_false, Bool.or_true, Bool.true_or, Bool.or_false, Bool.false_or, Bool.false_eq_true, Bool.true_eq_false, if_true, if_false, ↓reduceIte], rfl⟩) dX6_within_18

set_option maxHeartbeats 4000000 in
set_option maxRecDepth 100000 in
theorem kX6_at (l : Launch) (dC : Nat → ClassId) (dI : Nat → Nat → Nat) (ca : Nat → ClassId) (ad : Nat → Nat) (S : sSt) (bb : Nat) (sd : Nat) (pp : Nat) : ct_I l yX6_at (Cond.code yX6_at cX6_at 3 (some .int) :: wa_T) ({ frames := 0, cells := 0, slots := 0, locals := 0 } : Room) (dC, dI) vwCl (tyl ca) (wq ca ad) S [.int (nI bb), .int (nI sd), .int (nI pp)] (fun r S2 => r = nI (12 * bb + 6 * sd + pp) ∧ S2 = S) := by
  refine ct_ofI (by decide) (Nat.le_of_ble_eq_true rfl) ?_
  intro p e s m below meth c A ls hx hb hr hml hts hown hlocks hK hA hw hl
  have hl : lv_has ls 3 [(0, .int (nI bb)), (1, .int (nI sd)), (2, .int (nI pp))] := hl
  refine lv_bipush (v := nI 12) hx hb dX6_at_0 (by decide) ?_
  refine lv_iload_n hx hb dX6_at_2 rfl (lv_at hl 0 rfl) ?_
  refine lv_imul hx hb dX6_at_3 ?_
  refine tp_i (pk_mul 12 bb) ?_
  refine lv_bipush (v := nI 6) hx hb dX6_at_4 (by decide) ?_
  refine lv_iload_n hx hb dX6_at_6 rfl (lv_at hl 1 rfl) ?_
  refine lv_imul hx hb dX6_at_7 ?_
  refine tp_i (pk_mul 6 sd) ?_
  refine lv_iadd hx hb dX6_at_8 ?_
  refine tp_i (nI_add (12 * bb) (6 * sd)) ?_
  refine lv_iload_n hx hb dX6_at_9 rfl (lv_at hl 2 rfl) ?_
  refine lv_iadd hx hb dX6_at_10 ?_
  refine tp_i (nI_add ((12 * bb) + (6 * sd)) pp) ?_
  exact ct_iret (S := S) (v := nI (((12 * bb) + (6 * sd)) + pp)) hx hb hr hlocks hK hw (⟨rfl, rfl⟩) dX6_at_11

set_option maxHeartbeats 4000000 in
set_option maxRecDepth 100000 in
theorem kX6_isWell (l : Launch) (dC : Nat → ClassId) (dI : Nat → Nat → Nat) (ca : Nat → ClassId) (ad : Nat → Nat) (S : sSt) (pp : Int32) : ct_I l yX6_isWell (Cond.code yX6_isWell cX6_isWell 2 (some .boolean) :: wa_T) ({ frames := 1, cells := 0, slots := 0, locals := 25 } : Room) (dC, dI) vwCl (tyl ca) (wq ca ad) S [.ref (ad 0), .int pp] (fun r S2 => r = bI (mwl S pp) ∧ S2 = S) := by
  refine ct_ofI (by decide) (Nat.le_of_ble_eq_true rfl) ?_
  intro p e s m below meth c A ls hx hb hr hml hts hown hlocks hK hA hw hl
  have hl : lv_has ls 2 [(0, .ref (ad 0)), (1, .int pp)] := hl
  refine lv_iload_n hx hb dX6_isWell_0 rfl (lv_at hl 1 rfl) ?_
  refine lv_i2l hx hb dX6_isWell_1 rfl ?_
  refine lv_lconst (v := 0) hx hb dX6_isWell_2 (by decide) ?_
  refine lv_ldc2 hx hb hown (hts _ wd_659) dX6_isWell_3 ?_
  refine wo_sI (As := [.long ((pp).toInt64), .long 0, .long 5]) (rest := []) (kX6_within l dC dI ca ad S ((pp).toInt64) 0 5) ⟨hx, hb, hml, hown, hts⟩ (va_cwS 3 hts (wa_gS wd_660 wd_661 wd_8 wd_662) rfl rfl rfl (by decide +kernel) ⟨Nat.le_of_ble_eq_true rfl, Nat.le_of_ble_eq_true rfl⟩) hK hw hA rfl hl.1 rfl (Nat.le_of_ble_eq_true rfl) dX6_isWell_6 ⟨Nat.zero_le _, Nat.zero_le _⟩ (fun r_1 S_1 H locs hp_1 hw => ?_)
  have e9 := hp_1.1.symm
  subst e9
  have e9 := hp_1.2.symm
  subst e9
  refine lv_if_eq (tgt := 25) hx hb dX6_isWell_9 (by decide) (fun c_2 => ?_) (fun c_2 => ?_)
  · skip
    have c_2 : wth ((pp).toInt64) 0 5 = false := nb_0 c_2
    refine lv_iconst (v := nI 0) hx hb dX6_isWell_25 (by decide) ?_
    exact ct_zret (S := S) (v := nI 0) hx hb hr hlocks hK (by first | decide | exact nb_z _) hw (⟨by simp only [bI, mwl, c_2, decide_true, decide_false, Bool.not_true, Bool.not_false, Bool.true_and, Bool.and_true, Bool.false_and, Bool.and_false, Bool.or_true, Bool.true_or, Bool.or_false, Bool.false_or, Bool.false_eq_true, Bool.true_eq_false, if_true, if_false, ↓reduceIte], rfl⟩) dX6_isWell_26
  · skip
    have c_2 : wth ((pp).toInt64) 0 5 = true := nb_1 c_2
    obtain ⟨p9, hp9, rfl⟩ := w5_n c_2
    have ec_p9 := nI_clamp (n := p9) (by omega)
    refine lv_aload_n hx hb dX6_isWell_12 rfl (lv_at hl 0 rfl) ?_
    refine wo_get hx hb hts inX6 hown hK hw 0 rfl rfl 7 (by decide) (hts _ wd_572) (fun _ h9 => h9) rfl dX6_isWell_13 ?_
    refine lv_iload_n hx hb dX6_isWell_16 rfl (lv_at hl 1 rfl) ?_
    refine wo_iald hx hb hK hw 6 0 rfl rfl p9 rfl (by first | assumption | omega) (by decide) dX6_isWell_17 ?_
    refine lv_if_ne (tgt := 25) hx hb dX6_isWell_18 (by decide) (fun c_3 => ?_) (fun c_3 => ?_)
    · skip
      refine lv_iconst (v := nI 0) hx hb dX6_isWell_25 (by decide) ?_
      exact ct_zret (S := S) (v := nI 0) hx hb hr hlocks hK (by first | decide | exact nb_z _) hw (⟨by simp only [bI, mwl, c_2, ec_p9, c_3, decide_true, decide_false, Bool.not_true, Bool.not_false, Bool.true_and, Bool.and_true, Bool.false_and, Bool.and_false, Bool.or_true, Bool.true_or, Bool.or_false, Bool.false_or, Bool.false_eq_true, Bool.true_eq_false, if_true, if_false, ↓reduceIte], rfl⟩) dX6_isWell_26
    · skip
      refine lv_iconst (v := nI 1) hx hb dX6_isWell_21 (by decide) ?_
      refine lv_goto (tgt := 26) hx hb dX6_isWell_22 (by decide) ?_
      exact ct_zret (S := S) (v := nI 1) hx hb hr hlocks hK (by first | decide | exact nb_z _) hw (⟨by simp only [bI, mwl, c_2, ec_p9, c_3, decide_true, decide_false, Bool.not_true, Bool.not_false, Bool.true_and, Bool.and_true, Bool.false_and, Bool.and_false, Bool.or_true, Bool.true_or, Bool.or_false, Bool.false_or, Bool.false_eq_true, Bool.true_eq_false, if_true, if_false, ↓reduceIte], rfl⟩) dX6_isWell_26

set_option maxHeartbeats 4000000 in
set_option maxRecDepth 100000 in
theorem kX6_isBound (l : Launch) (dC : Nat → ClassId) (dI : Nat → Nat → Nat) (ca : Nat → ClassId) (ad : Nat → Nat) (S : sSt) (bb : Int32) : ct_I l yX6_isBound (Cond.code yX6_isBound cX6_isBound 2 (some .boolean) :: wa_T) ({ frames := 1, cells := 0, slots := 0, locals := 25 } : Room) (dC, dI) vwCl (tyl ca) (wq ca ad) S [.ref (ad 0), .int bb] (fun r S2 => r = bI (mbd S bb) ∧ S2 = S) := by
  refine ct_ofI (by decide) (Nat.le_of_ble_eq_true rfl) ?_
  intro p e s m below meth c A ls hx hb hr hml hts hown hlocks hK hA hw hl
  have hl : lv_has ls 2 [(0, .ref (ad 0)), (1, .int bb)] := hl
  refine lv_iload_n hx hb dX6_isBound_0 rfl (lv_at hl 1 rfl) ?_
  refine lv_i2l hx hb dX6_isBound_1 rfl ?_
  refine lv_lconst (v := 0) hx hb dX6_isBound_2 (by decide) ?_
  refine lv_aload_n hx hb dX6_isBound_3 rfl (lv_at hl 0 rfl) ?_
  refine wo_get hx hb hts inX6 hown hK hw 0 rfl rfl 1 (by decide) (hts _ wd_566) (fun _ h9 => h9) rfl dX6_isBound_4 ?_
  refine lv_i2l hx hb dX6_isBound_7 rfl ?_
  refine lv_lconst (v := 1) hx hb dX6_isBound_8 (by decide) ?_
  refine lv_lsub hx hb dX6_isBound_9 ?_
  refine wo_sI (As := [.long ((bb).toInt64), .long 0, .long ((((S.1 0 1)).toInt64) - 1)]) (rest := []) (kX6_within l dC dI ca ad S ((bb).toInt64) 0 ((((S.1 0 1)).toInt64) - 1)) ⟨hx, hb, hml, hown, hts⟩ (va_cwS 3 hts (wa_gS wd_660 wd_661 wd_8 wd_662) rfl rfl rfl (by decide +kernel) ⟨Nat.le_of_ble_eq_true rfl, Nat.le_of_ble_eq_true rfl⟩) hK hw hA rfl hl.1 rfl (Nat.le_of_ble_eq_true rfl) dX6_isBound_10 ⟨Nat.zero_le _, Nat.zero_le _⟩ (fun r_1 S_1 H locs hp_1 hw => ?_)
  have e9 := hp_1.1.symm
  subst e9
  have e9 := hp_1.2.symm
  subst e9
  exact ct_zret (S := S) (v := bI (wth ((bb).toInt64) 0 ((((S.1 0 1)).toInt64) - 1))) hx hb hr hlocks hK (by first | decide | exact nb_z _) hw (⟨rfl, rfl⟩) dX6_isBound_13

set_option maxHeartbeats 4000000 in
set_option maxRecDepth 100000 in
theorem kX6_isRow (l : Launch) (dC : Nat → ClassId) (dI : Nat → Nat → Nat) (ca : Nat → ClassId) (ad : Nat → Nat) (S : sSt) (rr : Int32) : ct_I l yX6_isRow (Cond.code yX6_isRow cX6_isRow 2 (some .boolean) :: wa_T) ({ frames := 1, cells := 0, slots := 0, locals := 25 } : Room) (dC, dI) vwCl (tyl ca) (wq ca ad) S [.ref (ad 0), .int rr] (fun r S2 => r = bI (mrw S rr) ∧ S2 = S) := by
  refine ct_ofI (by decide) (Nat.le_of_ble_eq_true rfl) ?_
  intro p e s m below meth c A ls hx hb hr hml hts hown hlocks hK hA hw hl
  have hl : lv_has ls 2 [(0, .ref (ad 0)), (1, .int rr)] := hl
  refine lv_iload_n hx hb dX6_isRow_0 rfl (lv_at hl 1 rfl) ?_
  refine lv_i2l hx hb dX6_isRow_1 rfl ?_
  refine lv_lconst (v := 1) hx hb dX6_isRow_2 (by decide) ?_
  refine lv_aload_n hx hb dX6_isRow_3 rfl (lv_at hl 0 rfl) ?_
  refine wo_get hx hb hts inX6 hown hK hw 0 rfl rfl 13 (by decide) (hts _ wd_578) (fun _ h9 => h9) rfl dX6_isRow_4 ?_
  refine lv_i2l hx hb dX6_isRow_7 rfl ?_
  refine wo_sI (As := [.long ((rr).toInt64), .long 1, .long (((S.1 0 13)).toInt64)]) (rest := []) (kX6_within l dC dI ca ad S ((rr).toInt64) 1 (((S.1 0 13)).toInt64)) ⟨hx, hb, hml, hown, hts⟩ (va_cwS 3 hts (wa_gS wd_660 wd_661 wd_8 wd_662) rfl rfl rfl (by decide +kernel) ⟨Nat.le_of_ble_eq_true rfl, Nat.le_of_ble_eq_true rfl⟩) hK hw hA rfl hl.1 rfl (Nat.le_of_ble_eq_true rfl) dX6_isRow_8 ⟨Nat.zero_le _, Nat.zero_le _⟩ (fun r_1 S_1 H locs hp_1 hw => ?_)
  have e9 := hp_1.1.symm
  subst e9
  have e9 := hp_1.2.symm
  subst e9
  exact ct_zret (S := S) (v := bI (wth ((rr).toInt64) 1 (((S.1 0 13)).toInt64))) hx hb hr hlocks hK (by first | decide | exact nb_z _) hw (⟨rfl, rfl⟩) dX6_isRow_11
