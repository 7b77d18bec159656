theorem dX1_has_0 : decode cX1_has 0 = .ok (.iload_n 0, 1) := by decide +kernel
theorem dX1_has_1 : decode cX1_has 1 = .ok (.ifCond .lt 13, 3) := by decide +kernel
theorem dX1_has_4 : decode cX1_has 4 = .ok (.iload_n 0, 1) := by decide +kernel
theorem dX1_has_5 : decode cX1_has 5 = .ok (.bipush 6, 2) := by decide +kernel
theorem dX1_has_7 : decode cX1_has 7 = .ok (.if_icmp .ge 7, 3) := by decide +kernel
theorem dX1_has_10 : decode cX1_has 10 = .ok (.iconst 1, 1) := by decide +kernel
theorem dX1_has_11 : decode cX1_has 11 = .ok (.goto 4, 3) := by decide +kernel
theorem dX1_has_14 : decode cX1_has 14 = .ok (.iconst 0, 1) := by decide +kernel
theorem dX1_has_15 : decode cX1_has 15 = .ok (.ireturn, 1) := by decide +kernel

theorem dX1_isWell_0 : decode cX1_isWell 0 = .ok (.iload_n 1, 1) := by decide +kernel
theorem dX1_isWell_1 : decode cX1_isWell 1 = .ok (.invokestatic 32, 3) := by decide +kernel
theorem dX1_isWell_4 : decode cX1_isWell 4 = .ok (.ifCond .eq 16, 3) := by decide +kernel
theorem dX1_isWell_7 : decode cX1_isWell 7 = .ok (.aload_n 0, 1) := by decide +kernel
theorem dX1_isWell_8 : decode cX1_isWell 8 = .ok (.getfield 19, 3) := by decide +kernel
theorem dX1_isWell_11 : decode cX1_isWell 11 = .ok (.iload_n 1, 1) := by decide +kernel
theorem dX1_isWell_12 : decode cX1_isWell 12 = .ok (.iaload, 1) := by decide +kernel
theorem dX1_isWell_13 : decode cX1_isWell 13 = .ok (.ifCond .ne 7, 3) := by decide +kernel
theorem dX1_isWell_16 : decode cX1_isWell 16 = .ok (.iconst 1, 1) := by decide +kernel
theorem dX1_isWell_17 : decode cX1_isWell 17 = .ok (.goto 4, 3) := by decide +kernel
theorem dX1_isWell_20 : decode cX1_isWell 20 = .ok (.iconst 0, 1) := by decide +kernel
theorem dX1_isWell_21 : decode cX1_isWell 21 = .ok (.ireturn, 1) := by decide +kernel

theorem dX1_tell_0 : decode cX1_tell 0 = .ok (.iconst 1, 1) := by decide +kernel
theorem dX1_tell_1 : decode cX1_tell 1 = .ok (.iload_n 1, 1) := by decide +kernel
theorem dX1_tell_2 : decode cX1_tell 2 = .ok (.ishl, 1) := by decide +kernel
theorem dX1_tell_3 : decode cX1_tell 3 = .ok (.istore_n 3, 1) := by decide +kernel
theorem dX1_tell_4 : decode cX1_tell 4 = .ok (.aload_n 0, 1) := by decide +kernel
theorem dX1_tell_5 : decode cX1_tell 5 = .ok (.getfield 23, 3) := by decide +kernel
theorem dX1_tell_8 : decode cX1_tell 8 = .ok (.iload_n 2, 1) := by decide +kernel
theorem dX1_tell_9 : decode cX1_tell 9 = .ok (.iaload, 1) := by decide +kernel
theorem dX1_tell_10 : decode cX1_tell 10 = .ok (.iload_n 3, 1) := by decide +kernel
theorem dX1_tell_11 : decode cX1_tell 11 = .ok (.iand, 1) := by decide +kernel
theorem dX1_tell_12 : decode cX1_tell 12 = .ok (.ifCond .eq 5, 3) := by decide +kernel
theorem dX1_tell_15 : decode cX1_tell 15 = .ok (.iconst 0, 1) := by decide +kernel
theorem dX1_tell_16 : decode cX1_tell 16 = .ok (.ireturn, 1) := by decide +kernel
theorem dX1_tell_17 : decode cX1_tell 17 = .ok (.aload_n 0, 1) := by decide +kernel
theorem dX1_tell_18 : decode cX1_tell 18 = .ok (.getfield 23, 3) := by decide +kernel
theorem dX1_tell_21 : decode cX1_tell 21 = .ok (.iload_n 2, 1) := by decide +kernel
theorem dX1_tell_22 : decode cX1_tell 22 = .ok (.dup2, 1) := by decide +kernel
theorem dX1_tell_23 : decode cX1_tell 23 = .ok (.iaload, 1) := by decide +kernel
theorem dX1_tell_24 : decode cX1_tell 24 = .ok (.iload_n 3, 1) := by decide +kernel
theorem dX1_tell_25 : decode cX1_tell 25 = .ok (.ior, 1) := by decide +kernel
theorem dX1_tell_26 : decode cX1_tell 26 = .ok (.iastore, 1) := by decide +kernel
theorem dX1_tell_27 : decode cX1_tell 27 = .ok (.iconst 1, 1) := by decide +kernel
theorem dX1_tell_28 : decode cX1_tell 28 = .ok (.ireturn, 1) := by decide +kernel

theorem dX1_canBeRecovered_0 : decode cX1_canBeRecovered 0 = .ok (.iconst 0, 1) := by decide +kernel
theorem dX1_canBeRecovered_1 : decode cX1_canBeRecovered 1 = .ok (.istore_n 2, 1) := by decide +kernel
theorem dX1_canBeRecovered_2 : decode cX1_canBeRecovered 2 = .ok (.iconst 0, 1) := by decide +kernel
theorem dX1_canBeRecovered_3 : decode cX1_canBeRecovered 3 = .ok (.istore_n 3, 1) := by decide +kernel
theorem dX1_canBeRecovered_4 : decode cX1_canBeRecovered 4 = .ok (.iload_n 3, 1) := by decide +kernel
theorem dX1_canBeRecovered_5 : decode cX1_canBeRecovered 5 = .ok (.bipush 6, 2) := by decide +kernel
theorem dX1_canBeRecovered_7 : decode cX1_canBeRecovered 7 = .ok (.if_icmp .ge 24, 3) := by decide +kernel
theorem dX1_canBeRecovered_10 : decode cX1_canBeRecovered 10 = .ok (.aload_n 0, 1) := by decide +kernel
theorem dX1_canBeRecovered_11 : decode cX1_canBeRecovered 11 = .ok (.getfield 19, 3) := by decide +kernel
theorem dX1_canBeRecovered_14 : decode cX1_canBeRecovered 14 = .ok (.iload_n 3, 1) := by decide +kernel
theorem dX1_canBeRecovered_15 : decode cX1_canBeRecovered 15 = .ok (.iaload, 1) := by decide +kernel
theorem dX1_canBeRecovered_16 : decode cX1_canBeRecovered 16 = .ok (.ifCond .ne 9, 3) := by decide +kernel
theorem dX1_canBeRecovered_19 : decode cX1_canBeRecovered 19 = .ok (.iload_n 2, 1) := by decide +kernel
theorem dX1_canBeRecovered_20 : decode cX1_canBeRecovered 20 = .ok (.iconst 1, 1) := by decide +kernel
theorem dX1_canBeRecovered_21 : decode cX1_canBeRecovered 21 = .ok (.iload_n 3, 1) := by decide +kernel
theorem dX1_canBeRecovered_22 : decode cX1_canBeRecovered 22 = .ok (.ishl, 1) := by decide +kernel
theorem dX1_canBeRecovered_23 : decode cX1_canBeRecovered 23 = .ok (.ior, 1) := by decide +kernel
theorem dX1_canBeRecovered_24 : decode cX1_canBeRecovered 24 = .ok (.istore_n 2, 1) := by decide +kernel
theorem dX1_canBeRecovered_25 : decode cX1_canBeRecovered 25 = .ok (.iinc 3 1, 3) := by decide +kernel
theorem dX1_canBeRecovered_28 : decode cX1_canBeRecovered 28 = .ok (.goto (-24), 3) := by decide +kernel
theorem dX1_canBeRecovered_31 : decode cX1_canBeRecovered 31 = .ok (.aload_n 0, 1) := by decide +kernel
theorem dX1_canBeRecovered_32 : decode cX1_canBeRecovered 32 = .ok (.getfield 19, 3) := by decide +kernel
theorem dX1_canBeRecovered_35 : decode cX1_canBeRecovered 35 = .ok (.iload_n 1, 1) := by decide +kernel
theorem dX1_canBeRecovered_36 : decode cX1_canBeRecovered 36 = .ok (.iaload, 1) := by decide +kernel
theorem dX1_canBeRecovered_37 : decode cX1_canBeRecovered 37 = .ok (.iconst 1, 1) := by decide +kernel
theorem dX1_canBeRecovered_38 : decode cX1_canBeRecovered 38 = .ok (.if_icmp .ne 23, 3) := by decide +kernel
theorem dX1_canBeRecovered_41 : decode cX1_canBeRecovered 41 = .ok (.iload_n 2, 1) := by decide +kernel
theorem dX1_canBeRecovered_42 : decode cX1_canBeRecovered 42 = .ok (.ifCond .eq 19, 3) := by decide +kernel
theorem dX1_canBeRecovered_45 : decode cX1_canBeRecovered 45 = .ok (.aload_n 0, 1) := by decide +kernel
theorem dX1_canBeRecovered_46 : decode cX1_canBeRecovered 46 = .ok (.getfield 23, 3) := by decide +kernel
theorem dX1_canBeRecovered_49 : decode cX1_canBeRecovered 49 = .ok (.iload_n 1, 1) := by decide +kernel
theorem dX1_canBeRecovered_50 : decode cX1_canBeRecovered 50 = .ok (.iaload, 1) := by decide +kernel
theorem dX1_canBeRecovered_51 : decode cX1_canBeRecovered 51 = .ok (.iload_n 2, 1) := by decide +kernel
theorem dX1_canBeRecovered_52 : decode cX1_canBeRecovered 52 = .ok (.iand, 1) := by decide +kernel
theorem dX1_canBeRecovered_53 : decode cX1_canBeRecovered 53 = .ok (.iload_n 2, 1) := by decide +kernel
theorem dX1_canBeRecovered_54 : decode cX1_canBeRecovered 54 = .ok (.if_icmp .ne 7, 3) := by decide +kernel
theorem dX1_canBeRecovered_57 : decode cX1_canBeRecovered 57 = .ok (.iconst 1, 1) := by decide +kernel
theorem dX1_canBeRecovered_58 : decode cX1_canBeRecovered 58 = .ok (.goto 4, 3) := by decide +kernel
theorem dX1_canBeRecovered_61 : decode cX1_canBeRecovered 61 = .ok (.iconst 0, 1) := by decide +kernel
theorem dX1_canBeRecovered_62 : decode cX1_canBeRecovered 62 = .ok (.ireturn, 1) := by decide +kernel

set_option maxHeartbeats 4000000 in
set_option maxRecDepth 100000 in
theorem kX1_has (l : Launch) (dC : Nat → ClassId) (dI : Nat → Nat → Nat) (ca : Nat → ClassId) (ad : Nat → Nat) (S : sSt) (pp : Int32) : ct_I l yX1_has (Cond.code yX1_has cX1_has 1 (some .boolean) :: wa_T) ({ frames := 0, cells := 0, slots := 0, locals := 0 } : Room) (dC, dI) vwCl (tyl ca) (wc ca ad) S [.int pp] (fun r S2 => r = bI (h6 pp) ∧ S2 = S) := by
  refine ct_ofI (by decide) (Nat.le_of_ble_eq_true rfl) ?_
  intro p e s m below meth c A ls hx hb hr hml hts hown hlocks hK hA hw hl
  have hl : lv_has ls 1 [(0, .int pp)] := hl
  refine lv_iload_n hx hb dX1_has_0 rfl (lv_at hl 0 rfl) ?_
  refine lv_if_lt (tgt := 14) hx hb dX1_has_1 (by decide) (fun c_1 => ?_) (fun c_1 => ?_)
  · skip
    refine lv_iconst (v := nI 0) hx hb dX1_has_14 (by decide) ?_
    exact ct_zret (S := S) (v := nI 0) hx hb hr hlocks hK (by first | decide | exact nb_z _) hw (⟨by simp only [bI, h6, c_1, decide_true, decide_false, Bool.not_true, Bool.not_false, Bool.true_and, Bool.and_true, Bool.false_and, Bool.and_false, Bool.or_true, Bool.true_or, Bool.or_false, Bool.false_or, Bool.false_eq_true, Bool.true_eq_false, if_true, if_false, ↓reduceIte], rfl⟩) dX1_has_15
  · skip
    refine lv_iload_n hx hb dX1_has_4 rfl (lv_at hl 0 rfl) ?_
    refine lv_bipush (v := nI 6) hx hb dX1_has_5 (by decide) ?_
    refine lv_icmp_ge (tgt := 14) hx hb dX1_has_7 (by decide) (fun c_2 => ?_) (fun c_2 => ?_)
    · skip
      refine lv_iconst (v := nI 0) hx hb dX1_has_14 (by decide) ?_
      exact ct_zret (S := S) (v := nI 0) hx hb hr hlocks hK (by first | decide | exact nb_z _) hw (⟨by simp only [bI, h6, c_1, c_2, decide_true, decide_false, Bool.not_true, Bool.not_false, Bool.true_and, Bool.and_true, Bool.false_and, Bool.and_false, Bool.or_true, Bool.true_or, Bool.or_false, Bool.false_or, Bool.false_eq_true, Bool.true_eq_false, if_true, if_false, ↓reduceIte], rfl⟩) dX1_has_15
    · skip
      refine lv_iconst (v := nI 1) hx hb dX1_has_10 (by decide) ?_
      refine lv_goto (tgt := 15) hx hb dX1_has_11 (by decide) ?_
      exact ct_zret (S := S) (v := nI 1) hx hb hr hlocks hK (by first | decide | exact nb_z _) hw (⟨by simp only [bI, h6, c_1, c_2, decide_true, decide_false, Bool.not_true, Bool.not_false, Bool.true_and, Bool.and_true, Bool.false_and, Bool.and_false, Bool.or_true, Bool.true_or, Bool.or_false, Bool.false_or, Bool.false_eq_true, Bool.true_eq_false, if_true, if_false, ↓reduceIte], rfl⟩) dX1_has_15

set_option maxHeartbeats 4000000 in
set_option maxRecDepth 100000 in
theorem kX1_isWell (l : Launch) (dC : Nat → ClassId) (dI : Nat → Nat → Nat) (ca : Nat → ClassId) (ad : Nat → Nat) (S : sSt) (pp : Int32) : ct_I l yX1_isWell (Cond.code yX1_isWell cX1_isWell 2 (some .boolean) :: wa_T) ({ frames := 1, cells := 0, slots := 0, locals := 20 } : Room) (dC, dI) vwCl (tyl ca) (wc ca ad) S [.ref (ad 1), .int pp] (fun r S2 => r = bI (wl S pp) ∧ S2 = S) := by
  refine ct_ofI (by decide) (Nat.le_of_ble_eq_true rfl) ?_
  intro p e s m below meth c A ls hx hb hr hml hts hown hlocks hK hA hw hl
  have hl : lv_has ls 2 [(0, .ref (ad 1)), (1, .int pp)] := hl
  refine lv_iload_n hx hb dX1_isWell_0 rfl (lv_at hl 1 rfl) ?_
  refine wo_sI (As := [.int pp]) (rest := []) (kX1_has l dC dI ca ad S pp) ⟨hx, hb, hml, hown, hts⟩ (va_cwS 1 hts (wa_gS wd_196 wd_197 wd_2 wd_198) rfl rfl rfl (by decide +kernel) ⟨Nat.le_of_ble_eq_true rfl, Nat.le_of_ble_eq_true rfl⟩) hK hw hA rfl hl.1 rfl (Nat.le_of_ble_eq_true rfl) dX1_isWell_1 ⟨Nat.zero_le _, Nat.zero_le _⟩ (fun r_1 S_1 H locs hp_1 hw => ?_)
  have e9 := hp_1.1.symm
  subst e9
  have e9 := hp_1.2.symm
  subst e9
  refine lv_if_eq (tgt := 20) hx hb dX1_isWell_4 (by decide) (fun c_2 => ?_) (fun c_2 => ?_)
  · skip
    have c_2 : h6 pp = false := nb_0 c_2
    refine lv_iconst (v := nI 0) hx hb dX1_isWell_20 (by decide) ?_
    exact ct_zret (S := S) (v := nI 0) hx hb hr hlocks hK (by first | decide | exact nb_z _) hw (⟨by simp only [bI, wl, c_2, decide_true, decide_false, Bool.not_true, Bool.not_false, Bool.true_and, Bool.and_true, Bool.false_and, Bool.and_false, Bool.or_true, Bool.true_or, Bool.or_false, Bool.false_or, Bool.false_eq_true, Bool.true_eq_false, if_true, if_false, ↓reduceIte], rfl⟩) dX1_isWell_21
  · skip
    have c_2 : h6 pp = true := nb_1 c_2
    obtain ⟨p9, hp9, rfl⟩ := h6_n c_2
    have ec9 := nI_clamp (n := p9) (by omega)
    refine lv_aload_n hx hb dX1_isWell_7 rfl (lv_at hl 0 rfl) ?_
    refine wo_get hx hb hts inX1 hown hK hw 1 rfl rfl 2 (by decide) (hts _ wd_39) (fun _ h9 => h9) rfl dX1_isWell_8 ?_
    refine lv_iload_n hx hb dX1_isWell_11 rfl (lv_at hl 1 rfl) ?_
    refine wo_iald hx hb hK hw 8 0 rfl rfl p9 rfl (by first | assumption | omega) (by decide) dX1_isWell_12 ?_
    refine lv_if_ne (tgt := 20) hx hb dX1_isWell_13 (by decide) (fun c_3 => ?_) (fun c_3 => ?_)
    · skip
      refine lv_iconst (v := nI 0) hx hb dX1_isWell_20 (by decide) ?_
      exact ct_zret (S := S) (v := nI 0) hx hb hr hlocks hK (by first | decide | exact nb_z _) hw (⟨by simp only [bI, wl, c_2, ec9, c_3, decide_true, decide_false, Bool.not_true, Bool.not_false, Bool.true_and, Bool.and_true, Bool.false_and, Bool.and_false, Bool.or_true, Bool.true_or, Bool.or_false, Bool.false_or, Bool.false_eq_true, Bool.true_eq_false, if_true, if_false, ↓reduceIte], rfl⟩) dX1_isWell_21
    · skip
      refine lv_iconst (v := nI 1) hx hb dX1_isWell_16 (by decide) ?_
      refine lv_goto (tgt := 21) hx hb dX1_isWell_17 (by decide) ?_
      exact ct_zret (S := S) (v := nI 1) hx hb hr hlocks hK (by first | decide | exact nb_z _) hw (⟨by simp only [bI, wl, c_2, ec9, c_3, decide_true, decide_false, Bool.not_true, Bool.not_false, Bool.true_and, Bool.and_true, Bool.false_and, Bool.and_false, Bool.or_true, Bool.true_or, Bool.or_false, Bool.false_or, Bool.false_eq_true, Bool.true_eq_false, if_true, if_false, ↓reduceIte], rfl⟩) dX1_isWell_21

set_option maxHeartbeats 4000000 in
set_option maxRecDepth 100000 in
theorem kX1_tell (l : Launch) (dC : Nat → ClassId) (dI : Nat → Nat → Nat) (ca : Nat → ClassId) (ad : Nat → Nat) (S : sSt) (pp : Nat) (gg : Nat) (hp : pp < 6) (hg : gg < 6) : ct_I l yX1_tell (Cond.code yX1_tell cX1_tell 4 (some .boolean) :: wa_T) ({ frames := 0, cells := 0, slots := 0, locals := 0 } : Room) (dC, dI) vwCl (tyl ca) (wc ca ad) S [.ref (ad 1), .int (nI pp), .int (nI gg)] (fun r S2 => r = bI (tk S gg pp) ∧ S2 = if tk S gg pp = true then sI S 9 gg (S.1 9 gg ||| bt1 pp) else S) := by
  refine ct_ofI (by decide) (Nat.le_of_ble_eq_true rfl) ?_
  intro p e s m below meth c A ls hx hb hr hml hts hown hlocks hK hA hw hl
  have hl : lv_has ls 4 [(0, .ref (ad 1)), (1, .int (nI pp)), (2, .int (nI gg))] := hl
  refine lv_iconst (v := nI 1) hx hb dX1_tell_0 (by decide) ?_
  refine lv_iload_n hx hb dX1_tell_1 rfl (lv_at hl 1 rfl) ?_
  refine lv_ishl hx hb dX1_tell_2 ?_
  refine lv_istore_n (lv' := [(3, .int ((nI 1) <<< ((nI pp) &&& 31))), (0, .ref (ad 1)), (1, .int (nI pp)), (2, .int (nI gg))]) hx hb dX1_tell_3 rfl hl (by decide) rfl (fun ls hl => ?_)
  refine lv_aload_n hx hb dX1_tell_4 rfl (lv_at hl 1 rfl) ?_
  refine wo_get hx hb hts inX1 hown hK hw 1 rfl rfl 3 (by decide) (hts _ wd_41) (fun _ h9 => h9) rfl dX1_tell_5 ?_
  refine lv_iload_n hx hb dX1_tell_8 rfl (lv_at hl 3 rfl) ?_
  refine wo_iald hx hb hK hw 9 0 rfl rfl gg rfl (by first | assumption | omega) (by decide) dX1_tell_9 ?_
  refine lv_iload_n hx hb dX1_tell_10 rfl (lv_at hl 0 rfl) ?_
  refine lv_iand hx hb dX1_tell_11 ?_
  refine lv_if_eq (tgt := 17) hx hb dX1_tell_12 (by decide) (fun c_1 => ?_) (fun c_1 => ?_)
  · skip
    refine lv_aload_n hx hb dX1_tell_17 rfl (lv_at hl 1 rfl) ?_
    refine wo_get hx hb hts inX1 hown hK hw 1 rfl rfl 3 (by decide) (hts _ wd_41) (fun _ h9 => h9) rfl dX1_tell_18 ?_
    refine lv_iload_n hx hb dX1_tell_21 rfl (lv_at hl 3 rfl) ?_
    refine lv_dup2_11 hx hb dX1_tell_22 rfl rfl ?_
    refine wo_iald hx hb hK hw 9 0 rfl rfl gg rfl (by first | assumption | omega) (by decide) dX1_tell_23 ?_
    refine lv_iload_n hx hb dX1_tell_24 rfl (lv_at hl 0 rfl) ?_
    refine lv_ior hx hb dX1_tell_25 ?_
    refine wo_iast hx hb hK hw 9 0 rfl rfl gg rfl (by first | assumption | omega) (by decide) (se_9 ca ad S gg ((S.1 9 gg) ||| ((nI 1) <<< ((nI pp) &&& 31)))) dX1_tell_26 (fun H locs hw => ?_)
    refine lv_iconst (v := nI 1) hx hb dX1_tell_27 (by decide) ?_
    exact ct_zret (S := sI S 9 gg ((S.1 9 gg) ||| ((nI 1) <<< ((nI pp) &&& 31)))) (v := nI 1) hx hb hr hlocks hK (by first | decide | exact nb_z _) hw (⟨by simp only [bI, tk, bt1, c_1, decide_true, decide_false, Bool.not_true, Bool.not_false, Bool.true_and, Bool.and_true, Bool.false_and, Bool.and_false, Bool.or_true, Bool.true_or, Bool.or_false, Bool.false_or, Bool.false_eq_true, Bool.true_eq_false, if_true, if_false, ↓reduceIte], by simp only [tk, bt1, c_1, decide_true, decide_false, Bool.not_true, Bool.not_false, Bool.true_and, Bool.and_true, Bool.false_and, Bool.and_false, Bool.or_true, Bool.true_or, Bool.or_false, Bool.false_or, Bool.false_eq_true, Bool.true_eq_false, if_true, if_false, ↓reduceIte]⟩) dX1_tell_28
  · skip
    refine lv_iconst (v := nI 0) hx hb dX1_tell_15 (by decide) ?_
    exact ct_zret (S := S) (v := nI 0) hx hb hr hlocks hK (by first | decide | exact nb_z _) hw (⟨by simp only [bI, tk, bt1, c_1, decide_true, decide_false, Bool.not_true, Bool.not_false, Bool.true_and, Bool.and_true, Bool.false_and, Bool.and_false, Bool.or_true, Bool.true_or, Bool.or_false, Bool.false_or, Bool.false_eq_true, Bool.true_eq_false, if_true, if_false, ↓reduceIte], by simp only [tk, bt1, c_1, decide_true, decide_false, Bool.not_true, Bool.not_false, Bool.true_and, Bool.and_true, Bool.false_and, Bool.and_false, Bool.or_true, Bool.true_or, Bool.or_false, Bool.false_or, Bool.false_eq_true, Bool.true_eq_false, if_true, if_false, ↓reduceIte]⟩) dX1_tell_16

set_option maxHeartbeats 4000000 in
set_option maxRecDepth 100000 in
theorem kX1_canBeRecovered (l : Launch) (dC : Nat → ClassId) (dI : Nat → Nat → Nat) (ca : Nat → ClassId) (ad : Nat → Nat) (S : sSt) (gg : Nat) (hg : gg < 6) : ct_I l yX1_canBeRecovered (Cond.code yX1_canBeRecovered cX1_canBeRecovered 4 (some .boolean) :: wa_T) ({ frames := 0, cells := 0, slots := 0, locals := 0 } : Room) (dC, dI) vwCl (tyl ca) (wc ca ad) S [.ref (ad 1), .int (nI gg)] (fun r S2 => r = bI (cr S gg) ∧ S2 = S) := by
  refine ct_ofI (by decide) (Nat.le_of_ble_eq_true rfl) ?_
  intro p e s m below meth c A ls hx hb hr hml hts hown hlocks hK hA hw hl
  have hl : lv_has ls 4 [(0, .ref (ad 1)), (1, .int (nI gg))] := hl
  refine lv_iconst (v := nI 0) hx hb dX1_canBeRecovered_0 (by decide) ?_
  refine lv_istore_n (lv' := [(2, .int (nI 0)), (0, .ref (ad 1)), (1, .int (nI gg))]) hx hb dX1_canBeRecovered_1 rfl hl (by decide) rfl (fun ls hl => ?_)
  refine lv_iconst (v := nI 0) hx hb dX1_canBeRecovered_2 (by decide) ?_
  refine lv_istore_n (lv' := [(3, .int (nI 0)), (2, .int (nI 0)), (0, .ref (ad 1)), (1, .int (nI gg))]) hx hb dX1_canBeRecovered_3 rfl hl (by decide) rfl (fun ls hl => ?_)
  have lp_4 : ∀ (n : Nat) (i : Nat), i ≤ 6 → 7 ≤ i + n → ∀ (H : Heap) (locs : List Loc) (ls : Array Slot), wo_w (dC, dI) vwCl A s.heap (wc ca ad S) H locs → lv_has ls 4 [(0, .ref (ad 1)), (1, .int (nI gg)), (2, .int (wm S i)), (3, .int (nI i))] → W p l e ({ frames := 0, cells := 0, slots := 0, locals := 0 } : Room) s m ([.ref (ad 1), .int (nI gg)] : List Value).toArray below meth c H locs 0 0 (MQ below (va_Qi (fun r S2 => r = bI (cr S gg) ∧ S2 = S) (ct_B (dC, dI) vwCl (tyl ca) (wc ca ad) A) A) ([.ref (ad 1), .int (nI gg)] : List Value).toArray s 0 0 A) (F0 m 4 ls []) := by
    intro n
    induction n with
    | zero =>
      intro i hi hn
      exfalso
      omega
    | succ n ih_4 =>
      intro i hi hn H locs ls hw hl
      refine lv_iload_n hx hb dX1_canBeRecovered_4 rfl (lv_at hl 3 rfl) ?_
      refine lv_bipush (v := nI 6) hx hb dX1_canBeRecovered_5 (by decide) ?_
      refine lv_icmp_ge (tgt := 31) hx hb dX1_canBeRecovered_7 (by decide) (fun c_1 => ?_) (fun c_1 => ?_)
      · skip
        have c_1 : 6 ≤ i := (nI_leI (a := 6) (b := i) (by omega) (by omega)).mp c_1
        obtain rfl : 6 = i := by omega
        refine lv_aload_n hx hb dX1_canBeRecovered_31 rfl (lv_at hl 0 rfl) ?_
        refine wo_get hx hb hts inX1 hown hK hw 1 rfl rfl 2 (by decide) (hts _ wd_39) (fun _ h9 => h9) rfl dX1_canBeRecovered_32 ?_
        refine lv_iload_n hx hb dX1_canBeRecovered_35 rfl (lv_at hl 1 rfl) ?_
        refine wo_iald hx hb hK hw 8 0 rfl rfl gg rfl (by first | assumption | omega) (by decide) dX1_canBeRecovered_36 ?_
        refine lv_iconst (v := nI 1) hx hb dX1_canBeRecovered_37 (by decide) ?_
        refine lv_icmp_ne (tgt := 61) hx hb dX1_canBeRecovered_38 (by decide) (fun c_2 => ?_) (fun c_2 => ?_)
        · skip
          refine lv_iconst (v := nI 0) hx hb dX1_canBeRecovered_61 (by decide) ?_
          exact ct_zret (S := S) (v := nI 0) hx hb hr hlocks hK (by first | decide | exact nb_z _) hw (⟨by simp only [bI, cr, c_1, c_2, decide_true, decide_false, Bool.not_true, Bool.not_false, Bool.true_and, Bool.and_true, Bool.false_and, Bool.and_false, Bool.or_true, Bool.true_or, Bool.or_false, Bool.false_or, Bool.false_eq_true, Bool.true_eq_false, if_true, if_false, ↓reduceIte], rfl⟩) dX1_canBeRecovered_62
        · skip
          refine lv_iload_n hx hb dX1_canBeRecovered_41 rfl (lv_at hl 2 rfl) ?_
          refine lv_if_eq (tgt := 61) hx hb dX1_canBeRecovered_42 (by decide) (fun c_3 => ?_) (fun c_3 => ?_)
          · skip
            refine lv_iconst (v := nI 0) hx hb dX1_canBeRecovered_61 (by decide) ?_
            exact ct_zret (S := S) (v := nI 0) hx hb hr hlocks hK (by first | decide | exact nb_z _) hw (⟨by simp only [bI, cr, c_1, c_2, c_3, decide_true, decide_false, Bool.not_true, Bool.not_false, Bool.true_and, Bool.and_true, Bool.false_and, Bool.and_false, Bool.or_true, Bool.true_or, Bool.or_false, Bool.false_or, Bool.false_eq_true, Bool.true_eq_false, if_true, if_false, ↓reduceIte], rfl⟩) dX1_canBeRecovered_62
          · skip
            refine lv_aload_n hx hb dX1_canBeRecovered_45 rfl (lv_at hl 0 rfl) ?_
            refine wo_get hx hb hts inX1 hown hK hw 1 rfl rfl 3 (by decide) (hts _ wd_41) (fun _ h9 => h9) rfl dX1_canBeRecovered_46 ?_
            refine lv_iload_n hx hb dX1_canBeRecovered_49 rfl (lv_at hl 1 rfl) ?_
            refine wo_iald hx hb hK hw 9 0 rfl rfl gg rfl (by first | assumption | omega) (by decide) dX1_canBeRecovered_50 ?_
            refine lv_iload_n hx hb dX1_canBeRecovered_51 rfl (lv_at hl 2 rfl) ?_
            refine lv_iand hx hb dX1_canBeRecovered_52 ?_
            refine lv_iload_n hx hb dX1_canBeRecovered_53 rfl (lv_at hl 2 rfl) ?_
            refine lv_icmp_ne (tgt := 61) hx hb dX1_canBeRecovered_54 (by decide) (fun c_4 => ?_) (fun c_4 => ?_)
            · skip
              refine lv_iconst (v := nI 0) hx hb dX1_canBeRecovered_61 (by decide) ?_
              exact ct_zret (S := S) (v := nI 0) hx hb hr hlocks hK (by first | decide | exact nb_z _) hw (⟨by simp only [bI, cr, c_1, c_2, c_3, c_4, decide_true, decide_false, Bool.not_true, Bool.not_false, Bool.true_and, Bool.and_true, Bool.false_and, Bool.and_false, Bool.or_true, Bool.true_or, Bool.or_false, Bool.false_or, Bool.false_eq_true, Bool.true_eq_false, if_true, if_false, ↓reduceIte], rfl⟩) dX1_canBeRecovered_62
            · skip
              refine lv_iconst (v := nI 1) hx hb dX1_canBeRecovered_57 (by decide) ?_
              refine lv_goto (tgt := 62) hx hb dX1_canBeRecovered_58 (by decide) ?_
              exact ct_zret (S := S) (v := nI 1) hx hb hr hlocks hK (by first | decide | exact nb_z _) hw (⟨by simp only [bI, cr, c_1, c_2, c_3, c_4, decide_true, decide_false, Bool.not_true, Bool.not_false, Bool.true_and, Bool.and_true, Bool.false_and, Bool.and_false, Bool.or_true, Bool.true_or, Bool.or_false, Bool.false_or, Bool.false_eq_true, Bool.true_eq_false, if_true, if_false, ↓reduceIte], rfl⟩) dX1_canBeRecovered_62
      · skip
        have c_1 : ¬ (6 ≤ i) := fun h9 => c_1 ((nI_leI (a := 6) (b := i) (by omega) (by omega)).mpr h9)
        refine lv_aload_n hx hb dX1_canBeRecovered_10 rfl (lv_at hl 0 rfl) ?_
        refine wo_get hx hb hts inX1 hown hK hw 1 rfl rfl 2 (by decide) (hts _ wd_39) (fun _ h9 => h9) rfl dX1_canBeRecovered_11 ?_
        refine lv_iload_n hx hb dX1_canBeRecovered_14 rfl (lv_at hl 3 rfl) ?_
        refine wo_iald hx hb hK hw 8 0 rfl rfl i rfl (by first | assumption | omega) (by decide) dX1_canBeRecovered_15 ?_
        refine lv_if_ne (tgt := 25) hx hb dX1_canBeRecovered_16 (by decide) (fun c_5 => ?_) (fun c_5 => ?_)
        · skip
          refine lv_iinc (v := nI (i + 1)) (lv' := [(3, .int (nI (i + 1))), (0, .ref (ad 1)), (1, .int (nI gg)), (2, .int (wm S i))]) hx hb dX1_canBeRecovered_25 hl (k := 3) rfl (nI_inc _) (by decide) rfl (fun ls hl => ?_)
          refine lv_goto (tgt := 4) hx hb dX1_canBeRecovered_28 (by decide) ?_
          have e9 : wm S i = wm S (i + 1) := by first | rfl | (simp only [wm, bt1, c_1, c_5, ↓reduceIte]; done)
          rw [e9] at hl
          exact ih_4 (i + 1) (by omega) (by omega) _ _ _ hw (lv_sub hl [1, 2, 3, 0] rfl)
        · skip
          refine lv_iload_n hx hb dX1_canBeRecovered_19 rfl (lv_at hl 2 rfl) ?_
          refine lv_iconst (v := nI 1) hx hb dX1_canBeRecovered_20 (by decide) ?_
          refine lv_iload_n hx hb dX1_canBeRecovered_21 rfl (lv_at hl 3 rfl) ?_
          refine lv_ishl hx hb dX1_canBeRecovered_22 ?_
          refine lv_ior hx hb dX1_canBeRecovered_23 ?_
          refine lv_istore_n (lv' := [(2, .int ((wm S i) ||| ((nI 1) <<< ((nI i) &&& 31)))), (0, .ref (ad 1)), (1, .int (nI gg)), (3, .int (nI i))]) hx hb dX1_canBeRecovered_24 rfl hl (by decide) rfl (fun ls hl => ?_)
          refine lv_iinc (v := nI (i + 1)) (lv' := [(3, .int (nI (i + 1))), (2, .int ((wm S i) ||| ((nI 1) <<< ((nI i) &&& 31)))), (0, .ref (ad 1)), (1, .int (nI gg))]) hx hb dX1_canBeRecovered_25 hl (k := 3) rfl (nI_inc _) (by decide) rfl (fun ls hl => ?_)
          refine lv_goto (tgt := 4) hx hb dX1_canBeRecovered_28 (by decide) ?_
          have e9 : (wm S i) ||| ((nI 1) <<< ((nI i) &&& 31)) = wm S (i + 1) := by first | rfl | (simp only [wm, bt1, c_1, c_5, ↓reduceIte]; done)
          rw [e9] at hl
          exact ih_4 (i + 1) (by omega) (by omega) _ _ _ hw (lv_sub hl [2, 3, 1, 0] rfl)
  have e9 : nI 0 = wm S 0 := by first | rfl | (simp only [wm, bt1, ↓reduceIte]; done)
  rw [e9] at hl
  exact lp_4 7 0 (by omega) (by omega) _ _ _ hw (lv_sub hl [2, 3, 1, 0] rfl)
