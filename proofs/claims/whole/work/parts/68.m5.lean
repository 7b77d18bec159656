theorem dX6_share_0 : decode cX6_share 0 = .ok (.aload_n 0, 1) := by decide +kernel
theorem dX6_share_1 : decode cX6_share 1 = .ok (.aload_n 0, 1) := by decide +kernel
theorem dX6_share_2 : decode cX6_share 2 = .ok (.iload_n 1, 1) := by decide +kernel
theorem dX6_share_3 : decode cX6_share 3 = .ok (.invokevirtual 118, 3) := by decide +kernel
theorem dX6_share_6 : decode cX6_share 6 = .ok (.ifCond .eq 29, 3) := by decide +kernel
theorem dX6_share_9 : decode cX6_share 9 = .ok (.iload_n 2, 1) := by decide +kernel
theorem dX6_share_10 : decode cX6_share 10 = .ok (.i2l, 1) := by decide +kernel
theorem dX6_share_11 : decode cX6_share 11 = .ok (.lconst 0, 1) := by decide +kernel
theorem dX6_share_12 : decode cX6_share 12 = .ok (.lconst 1, 1) := by decide +kernel
theorem dX6_share_13 : decode cX6_share 13 = .ok (.invokestatic 84, 3) := by decide +kernel
theorem dX6_share_16 : decode cX6_share 16 = .ok (.ifCond .eq 19, 3) := by decide +kernel
theorem dX6_share_19 : decode cX6_share 19 = .ok (.iload_n 3, 1) := by decide +kernel
theorem dX6_share_20 : decode cX6_share 20 = .ok (.i2l, 1) := by decide +kernel
theorem dX6_share_21 : decode cX6_share 21 = .ok (.lconst 0, 1) := by decide +kernel
theorem dX6_share_22 : decode cX6_share 22 = .ok (.ldc2_w 82, 3) := by decide +kernel
theorem dX6_share_25 : decode cX6_share 25 = .ok (.invokestatic 84, 3) := by decide +kernel
theorem dX6_share_28 : decode cX6_share 28 = .ok (.ifCond .eq 7, 3) := by decide +kernel
theorem dX6_share_31 : decode cX6_share 31 = .ok (.iconst 0, 1) := by decide +kernel
theorem dX6_share_32 : decode cX6_share 32 = .ok (.goto 4, 3) := by decide +kernel
theorem dX6_share_35 : decode cX6_share 35 = .ok (.iconst 1, 1) := by decide +kernel
theorem dX6_share_36 : decode cX6_share 36 = .ok (.putfield 78, 3) := by decide +kernel
theorem dX6_share_39 : decode cX6_share 39 = .ok (.aload_n 0, 1) := by decide +kernel
theorem dX6_share_40 : decode cX6_share 40 = .ok (.getfield 78, 3) := by decide +kernel
theorem dX6_share_43 : decode cX6_share 43 = .ok (.ifCond .ne 17, 3) := by decide +kernel
theorem dX6_share_46 : decode cX6_share 46 = .ok (.aload_n 0, 1) := by decide +kernel
theorem dX6_share_47 : decode cX6_share 47 = .ok (.getfield 19, 3) := by decide +kernel
theorem dX6_share_50 : decode cX6_share 50 = .ok (.iload_n 1, 1) := by decide +kernel
theorem dX6_share_51 : decode cX6_share 51 = .ok (.iload_n 2, 1) := by decide +kernel
theorem dX6_share_52 : decode cX6_share 52 = .ok (.iload_n 3, 1) := by decide +kernel
theorem dX6_share_53 : decode cX6_share 53 = .ok (.invokestatic 111, 3) := by decide +kernel
theorem dX6_share_56 : decode cX6_share 56 = .ok (.laload, 1) := by decide +kernel
theorem dX6_share_57 : decode cX6_share 57 = .ok (.goto 4, 3) := by decide +kernel
theorem dX6_share_60 : decode cX6_share 60 = .ok (.lconst 0, 1) := by decide +kernel
theorem dX6_share_61 : decode cX6_share 61 = .ok (.lreturn, 1) := by decide +kernel

theorem dX6_lent_0 : decode cX6_lent 0 = .ok (.aload_n 0, 1) := by decide +kernel
theorem dX6_lent_1 : decode cX6_lent 1 = .ok (.aload_n 0, 1) := by decide +kernel
theorem dX6_lent_2 : decode cX6_lent 2 = .ok (.iload_n 1, 1) := by decide +kernel
theorem dX6_lent_3 : decode cX6_lent 3 = .ok (.invokevirtual 137, 3) := by decide +kernel
theorem dX6_lent_6 : decode cX6_lent 6 = .ok (.ifCond .eq 7, 3) := by decide +kernel
theorem dX6_lent_9 : decode cX6_lent 9 = .ok (.iconst 0, 1) := by decide +kernel
theorem dX6_lent_10 : decode cX6_lent 10 = .ok (.goto 4, 3) := by decide +kernel
theorem dX6_lent_13 : decode cX6_lent 13 = .ok (.iconst 1, 1) := by decide +kernel
theorem dX6_lent_14 : decode cX6_lent 14 = .ok (.putfield 78, 3) := by decide +kernel
theorem dX6_lent_17 : decode cX6_lent 17 = .ok (.aload_n 0, 1) := by decide +kernel
theorem dX6_lent_18 : decode cX6_lent 18 = .ok (.getfield 78, 3) := by decide +kernel
theorem dX6_lent_21 : decode cX6_lent 21 = .ok (.ifCond .ne 12, 3) := by decide +kernel
theorem dX6_lent_24 : decode cX6_lent 24 = .ok (.aload_n 0, 1) := by decide +kernel
theorem dX6_lent_25 : decode cX6_lent 25 = .ok (.getfield 57, 3) := by decide +kernel
theorem dX6_lent_28 : decode cX6_lent 28 = .ok (.iload_n 1, 1) := by decide +kernel
theorem dX6_lent_29 : decode cX6_lent 29 = .ok (.laload, 1) := by decide +kernel
theorem dX6_lent_30 : decode cX6_lent 30 = .ok (.goto 4, 3) := by decide +kernel
theorem dX6_lent_33 : decode cX6_lent 33 = .ok (.lconst 0, 1) := by decide +kernel
theorem dX6_lent_34 : decode cX6_lent 34 = .ok (.lreturn, 1) := by decide +kernel

theorem dX6_waits_0 : decode cX6_waits 0 = .ok (.aload_n 0, 1) := by decide +kernel
theorem dX6_waits_1 : decode cX6_waits 1 = .ok (.iload_n 1, 1) := by decide +kernel
theorem dX6_waits_2 : decode cX6_waits 2 = .ok (.i2l, 1) := by decide +kernel
theorem dX6_waits_3 : decode cX6_waits 3 = .ok (.lconst 0, 1) := by decide +kernel
theorem dX6_waits_4 : decode cX6_waits 4 = .ok (.ldc2_w 82, 3) := by decide +kernel
theorem dX6_waits_7 : decode cX6_waits 7 = .ok (.invokestatic 84, 3) := by decide +kernel
theorem dX6_waits_10 : decode cX6_waits 10 = .ok (.ifCond .eq 25, 3) := by decide +kernel
theorem dX6_waits_13 : decode cX6_waits 13 = .ok (.iload_n 2, 1) := by decide +kernel
theorem dX6_waits_14 : decode cX6_waits 14 = .ok (.i2l, 1) := by decide +kernel
theorem dX6_waits_15 : decode cX6_waits 15 = .ok (.lconst 0, 1) := by decide +kernel
theorem dX6_waits_16 : decode cX6_waits 16 = .ok (.aload_n 0, 1) := by decide +kernel
theorem dX6_waits_17 : decode cX6_waits 17 = .ok (.getfield 36, 3) := by decide +kernel
theorem dX6_waits_20 : decode cX6_waits 20 = .ok (.iload_n 1, 1) := by decide +kernel
theorem dX6_waits_21 : decode cX6_waits 21 = .ok (.iaload, 1) := by decide +kernel
theorem dX6_waits_22 : decode cX6_waits 22 = .ok (.i2l, 1) := by decide +kernel
theorem dX6_waits_23 : decode cX6_waits 23 = .ok (.lconst 1, 1) := by decide +kernel
theorem dX6_waits_24 : decode cX6_waits 24 = .ok (.lsub, 1) := by decide +kernel
theorem dX6_waits_25 : decode cX6_waits 25 = .ok (.invokestatic 84, 3) := by decide +kernel
theorem dX6_waits_28 : decode cX6_waits 28 = .ok (.ifCond .eq 7, 3) := by decide +kernel
theorem dX6_waits_31 : decode cX6_waits 31 = .ok (.iconst 0, 1) := by decide +kernel
theorem dX6_waits_32 : decode cX6_waits 32 = .ok (.goto 4, 3) := by decide +kernel
theorem dX6_waits_35 : decode cX6_waits 35 = .ok (.iconst 1, 1) := by decide +kernel
theorem dX6_waits_36 : decode cX6_waits 36 = .ok (.putfield 78, 3) := by decide +kernel
theorem dX6_waits_39 : decode cX6_waits 39 = .ok (.aload_n 0, 1) := by decide +kernel
theorem dX6_waits_40 : decode cX6_waits 40 = .ok (.getfield 78, 3) := by decide +kernel
theorem dX6_waits_43 : decode cX6_waits 43 = .ok (.ifCond .ne 17, 3) := by decide +kernel
theorem dX6_waits_46 : decode cX6_waits 46 = .ok (.aload_n 0, 1) := by decide +kernel
theorem dX6_waits_47 : decode cX6_waits 47 = .ok (.getfield 42, 3) := by decide +kernel
theorem dX6_waits_50 : decode cX6_waits 50 = .ok (.bipush 8, 2) := by decide +kernel
theorem dX6_waits_52 : decode cX6_waits 52 = .ok (.iload_n 1, 1) := by decide +kernel
theorem dX6_waits_53 : decode cX6_waits 53 = .ok (.imul, 1) := by decide +kernel
theorem dX6_waits_54 : decode cX6_waits 54 = .ok (.iload_n 2, 1) := by decide +kernel
theorem dX6_waits_55 : decode cX6_waits 55 = .ok (.iadd, 1) := by decide +kernel
theorem dX6_waits_56 : decode cX6_waits 56 = .ok (.laload, 1) := by decide +kernel
theorem dX6_waits_57 : decode cX6_waits 57 = .ok (.goto 4, 3) := by decide +kernel
theorem dX6_waits_60 : decode cX6_waits 60 = .ok (.lconst 0, 1) := by decide +kernel
theorem dX6_waits_61 : decode cX6_waits 61 = .ok (.lreturn, 1) := by decide +kernel

set_option maxHeartbeats 4000000 in
set_option maxRecDepth 100000 in
theorem kX6_share (l : Launch) (dC : Nat → ClassId) (dI : Nat → Nat → Nat) (ca : Nat → ClassId) (ad : Nat → Nat) (S : sSt) (bb : Int32) (sd : Int32) (pp : Int32) (nb : Nat) (nr : Nat) (hb6 : nb ≤ 6) (hr2 : nr ≤ 200) (hmi : MI nb nr S) : ct_L l yX6_share (Cond.code yX6_share cX6_share 4 (some .long) :: wa_T) ({ frames := 2, cells := 0, slots := 0, locals := 46 } : Room) (dC, dI) vwCl (tyl ca) (wq ca ad) S [.ref (ad 0), .int bb, .int sd, .int pp] (fun r S2 => r = (if mshG S bb sd pp = true then S.2 4 (12 * bb.toNatClampNeg + 6 * sd.toNatClampNeg + pp.toNatClampNeg) else 0) ∧ S2 = mthr S (mshG S bb sd pp)) := by
  refine ct_ofL (by decide) (Nat.le_of_ble_eq_true rfl) ?_
  intro p e s m below meth c A ls hx hb hr hml hts hown hlocks hK hA hw hl
  have hl : lv_has ls 4 [(0, .ref (ad 0)), (1, .int bb), (2, .int sd), (3, .int pp)] := hl
  refine lv_aload_n hx hb dX6_share_0 rfl (lv_at hl 0 rfl) ?_
  refine lv_aload_n hx hb dX6_share_1 rfl (lv_at hl 0 rfl) ?_
  refine lv_iload_n hx hb dX6_share_2 rfl (lv_at hl 1 rfl) ?_
  refine wo_vI (As := [.int bb]) (rest := [.ref (ad 0)]) (kX6_isBound l dC dI ca ad S bb) ⟨hx, hb, hml, hown, hts⟩ (cwV 1 hts (wa_gV wd_691 wd_693 ws_16 wd_8 wd_694) rfl rfl rfl (by decide +kernel) ⟨Nat.le_of_ble_eq_true rfl, Nat.le_of_ble_eq_true rfl⟩) hK hw hA 0 rfl rfl rfl rfl hl.1 rfl (Nat.le_of_ble_eq_true rfl) dX6_share_3 ⟨Nat.zero_le _, Nat.zero_le _⟩ (fun r_1 S_1 H locs hp_1 hw => ?_)
  have e9 := hp_1.1.symm
  subst e9
  have e9 := hp_1.2.symm
  subst e9
  refine lv_if_eq (tgt := 35) hx hb dX6_share_6 (by decide) (fun c_2 => ?_) (fun c_2 => ?_)
  · skip
    have c_2 : mbd S bb = false := nb_0 c_2
    refine lv_iconst (v := nI 1) hx hb dX6_share_35 (by decide) ?_
    refine wo_put (ty := .int) (v := .int (nI 1)) hx hb hts inX6 tyX6 tyX6_ok nmX6 hown hK hw 0 rfl rfl 0 (by decide) (hts _ wd_565) (fun _ h9 => h9) rfl (by decide +kernel) rfl rfl (Nat.le_of_ble_eq_true rfl) (sg_0 ca ad S (nI 1)) dX6_share_36 (fun H locs hw => ?_)
    refine lv_aload_n hx hb dX6_share_39 rfl (lv_at hl 0 rfl) ?_
    refine wo_get hx hb hts inX6 hown hK hw 0 rfl rfl 0 (by decide) (hts _ wd_565) (fun _ h9 => h9) rfl dX6_share_40 ?_
    refine tp_i (y := nI 1) (rfl) ?_
    refine lv_if_ne (tgt := 60) hx hb dX6_share_43 (by decide) (fun _ => ?_) (fun c9 => absurd c9 (by decide))
    refine lv_lconst (v := 0) hx hb dX6_share_60 (by decide) ?_
    exact ct_lret (S := sI S 0 0 (nI 1)) (v := 0) hx hb hr hlocks hK hw (⟨by simp only [bI, mshG, mthr, sI_2, c_2, decide_true, decide_false, Bool.not_true, Bool.not_false, Bool.true_and, Bool.and_true, Bool.false_and, Bool.and_false, Bool.or_true, Bool.true_or, Bool.or_false, Bool.false_or, Bool.false_eq_true, Bool.true_eq_false, if_true, if_false, ↓reduceIte], by simp only [mshG, mthr, sI_2, c_2, decide_true, decide_false, Bool.not_true, Bool.not_false, Bool.true_and, Bool.and_true, Bool.false_and, Bool.and_false, Bool.or_true, Bool.true_or, Bool.or_false, Bool.false_or, Bool.false_eq_true, Bool.true_eq_false, if_true, if_false, ↓reduceIte]⟩) dX6_share_61
  · skip
    have c_2 : mbd S bb = true := nb_1 c_2
    obtain ⟨b9, hb9, rfl⟩ := mbd_n hmi.2.1 hb6 c_2
    have ec_b9 := nI_clamp (n := b9) (by omega)
    refine lv_iload_n hx hb dX6_share_9 rfl (lv_at hl 2 rfl) ?_
    refine lv_i2l hx hb dX6_share_10 rfl ?_
    refine lv_lconst (v := 0) hx hb dX6_share_11 (by decide) ?_
    refine lv_lconst (v := 1) hx hb dX6_share_12 (by decide) ?_
    refine wo_sI (As := [.long ((sd).toInt64), .long 0, .long 1]) (rest := [.ref (ad 0)]) (kX6_within l dC dI ca ad S ((sd).toInt64) 0 1) ⟨hx, hb, hml, hown, hts⟩ (va_cwS 3 hts (wa_gS wd_660 wd_661 wd_8 wd_662) rfl rfl rfl (by decide +kernel) ⟨Nat.le_of_ble_eq_true rfl, Nat.le_of_ble_eq_true rfl⟩) hK hw hA rfl hl.1 rfl (Nat.le_of_ble_eq_true rfl) dX6_share_13 ⟨Nat.zero_le _, Nat.zero_le _⟩ (fun r_3 S_3 H locs hp_3 hw => ?_)
    have e9 := hp_3.1.symm
    subst e9
    have e9 := hp_3.2.symm
    subst e9
    refine lv_if_eq (tgt := 35) hx hb dX6_share_16 (by decide) (fun c_4 => ?_) (fun c_4 => ?_)
    · skip
      have c_4 : wth ((sd).toInt64) 0 1 = false := nb_0 c_4
      refine lv_iconst (v := nI 1) hx hb dX6_share_35 (by decide) ?_
      refine wo_put (ty := .int) (v := .int (nI 1)) hx hb hts inX6 tyX6 tyX6_ok nmX6 hown hK hw 0 rfl rfl 0 (by decide) (hts _ wd_565) (fun _ h9 => h9) rfl (by decide +kernel) rfl rfl (Nat.le_of_ble_eq_true rfl) (sg_0 ca ad S (nI 1)) dX6_share_36 (fun H locs hw => ?_)
      refine lv_aload_n hx hb dX6_share_39 rfl (lv_at hl 0 rfl) ?_
      refine wo_get hx hb hts inX6 hown hK hw 0 rfl rfl 0 (by decide) (hts _ wd_565) (fun _ h9 => h9) rfl dX6_share_40 ?_
      refine tp_i (y := nI 1) (rfl) ?_
      refine lv_if_ne (tgt := 60) hx hb dX6_share_43 (by decide) (fun _ => ?_) (fun c9 => absurd c9 (by decide))
      refine lv_lconst (v := 0) hx hb dX6_share_60 (by decide) ?_
      exact ct_lret (S := sI S 0 0 (nI 1)) (v := 0) hx hb hr hlocks hK hw (⟨by simp only [bI, mshG, mthr, sI_2, c_2, ec_b9, c_4, decide_true, decide_false, Bool.not_true, Bool.not_false, Bool.true_and, Bool.and_true, Bool.false_and, Bool.and_false, Bool.or_true, Bool.true_or, Bool.or_false, Bool.false_or, Bool.false_eq_true, Bool.true_eq_false, if_true, if_false, ↓reduceIte], by simp only [mshG, mthr, sI_2, c_2, ec_b9, c_4, decide_true, decide_false, Bool.not_true, Bool.not_false, Bool.true_and, Bool.and_true, Bool.false_and, Bool.and_false, Bool.or_true, Bool.true_or, Bool.or_false, Bool.false_or, Bool.false_eq_true, Bool.true_eq_false, if_true, if_false, ↓reduceIte]⟩) dX6_share_61
    · skip
      have c_4 : wth ((sd).toInt64) 0 1 = true := nb_1 c_4
      obtain ⟨s9, hs9, rfl⟩ := w1_n c_4
      have ec_s9 := nI_clamp (n := s9) (by omega)
      refine lv_iload_n hx hb dX6_share_19 rfl (lv_at hl 3 rfl) ?_
      refine lv_i2l hx hb dX6_share_20 rfl ?_
      refine lv_lconst (v := 0) hx hb dX6_share_21 (by decide) ?_
      refine lv_ldc2 hx hb hown (hts _ wd_659) dX6_share_22 ?_
      refine wo_sI (As := [.long ((pp).toInt64), .long 0, .long 5]) (rest := [.ref (ad 0)]) (kX6_within l dC dI ca ad S ((pp).toInt64) 0 5) ⟨hx, hb, hml, hown, hts⟩ (va_cwS 3 hts (wa_gS wd_660 wd_661 wd_8 wd_662) rfl rfl rfl (by decide +kernel) ⟨Nat.le_of_ble_eq_true rfl, Nat.le_of_ble_eq_true rfl⟩) hK hw hA rfl hl.1 rfl (Nat.le_of_ble_eq_true rfl) dX6_share_25 ⟨Nat.zero_le _, Nat.zero_le _⟩ (fun r_5 S_5 H locs hp_5 hw => ?_)
      have e9 := hp_5.1.symm
      subst e9
      have e9 := hp_5.2.symm
      subst e9
      refine lv_if_eq (tgt := 35) hx hb dX6_share_28 (by decide) (fun c_6 => ?_) (fun c_6 => ?_)
      · skip
        have c_6 : wth ((pp).toInt64) 0 5 = false := nb_0 c_6
        refine lv_iconst (v := nI 1) hx hb dX6_share_35 (by decide) ?_
        refine wo_put (ty := .int) (v := .int (nI 1)) hx hb hts inX6 tyX6 tyX6_ok nmX6 hown hK hw 0 rfl rfl 0 (by decide) (hts _ wd_565) (fun _ h9 => h9) rfl (by decide +kernel) rfl rfl (Nat.le_of_ble_eq_true rfl) (sg_0 ca ad S (nI 1)) dX6_share_36 (fun H locs hw => ?_)
        refine lv_aload_n hx hb dX6_share_39 rfl (lv_at hl 0 rfl) ?_
        refine wo_get hx hb hts inX6 hown hK hw 0 rfl rfl 0 (by decide) (hts _ wd_565) (fun _ h9 => h9) rfl dX6_share_40 ?_
        refine tp_i (y := nI 1) (rfl) ?_
        refine lv_if_ne (tgt := 60) hx hb dX6_share_43 (by decide) (fun _ => ?_) (fun c9 => absurd c9 (by decide))
        refine lv_lconst (v := 0) hx hb dX6_share_60 (by decide) ?_
        exact ct_lret (S := sI S 0 0 (nI 1)) (v := 0) hx hb hr hlocks hK hw (⟨by simp only [bI, mshG, mthr, sI_2, c_2, ec_b9, c_4, ec_s9, c_6, decide_true, decide_false, Bool.not_true, Bool.not_false, Bool.true_and, Bool.and_true, Bool.false_and, Bool.and_false, Bool.or_true, Bool.true_or, Bool.or_false, Bool.false_or, Bool.false_eq_true, Bool.true_eq_false, if_true, if_false, ↓reduceIte], by simp only [mshG, mthr, sI_2, c_2, ec_b9, c_4, ec_s9, c_6, decide_true, decide_false, Bool.not_true, Bool.not_false, Bool.true_and, Bool.and_true, Bool.false_and, Bool.and_false, Bool.or_true, Bool.true_or, Bool.or_false, Bool.false_or, Bool.false_eq_true, Bool.true_eq_false, if_true, if_false, ↓reduceIte]⟩) dX6_share_61
      · skip
        have c_6 : wth ((pp).toInt64) 0 5 = true := nb_1 c_6
        obtain ⟨p9, hp9, rfl⟩ := w5_n c_6
        have ec_p9 := nI_clamp (n := p9) (by omega)
        refine lv_iconst (v := nI 0) hx hb dX6_share_31 (by decide) ?_
        refine lv_goto (tgt := 36) hx hb dX6_share_32 (by decide) ?_
        refine wo_put (ty := .int) (v := .int (nI 0)) hx hb hts inX6 tyX6 tyX6_ok nmX6 hown hK hw 0 rfl rfl 0 (by decide) (hts _ wd_565) (fun _ h9 => h9) rfl (by decide +kernel) rfl rfl (Nat.le_of_ble_eq_true rfl) (sg_0 ca ad S (nI 0)) dX6_share_36 (fun H locs hw => ?_)
        refine lv_aload_n hx hb dX6_share_39 rfl (lv_at hl 0 rfl) ?_
        refine wo_get hx hb hts inX6 hown hK hw 0 rfl rfl 0 (by decide) (hts _ wd_565) (fun _ h9 => h9) rfl dX6_share_40 ?_
        refine tp_i (y := nI 0) (rfl) ?_
        refine lv_if_ne (tgt := 60) hx hb dX6_share_43 (by decide) (fun c9 => absurd c9 (by decide)) (fun _ => ?_)
        refine lv_aload_n hx hb dX6_share_46 rfl (lv_at hl 0 rfl) ?_
        refine wo_get hx hb hts inX6 hown hK hw 0 rfl rfl 5 (by decide) (hts _ wd_570) (fun _ h9 => h9) rfl dX6_share_47 ?_
        refine lv_iload_n hx hb dX6_share_50 rfl (lv_at hl 1 rfl) ?_
        refine lv_iload_n hx hb dX6_share_51 rfl (lv_at hl 2 rfl) ?_
        refine lv_iload_n hx hb dX6_share_52 rfl (lv_at hl 3 rfl) ?_
        refine wo_sI (As := [.int (nI b9), .int (nI s9), .int (nI p9)]) (rest := [.ref (ad 4)]) (kX6_at l dC dI ca ad (sI S 0 0 (nI 0)) b9 s9 p9) ⟨hx, hb, hml, hown, hts⟩ (va_cwS 3 hts (wa_gS wd_680 wd_681 wd_8 wd_682) rfl rfl rfl (by decide +kernel) ⟨Nat.le_of_ble_eq_true rfl, Nat.le_of_ble_eq_true rfl⟩) hK hw hA rfl hl.1 rfl (Nat.le_of_ble_eq_true rfl) dX6_share_53 ⟨Nat.zero_le _, Nat.zero_le _⟩ (fun r_7 S_7 H locs hp_7 hw => ?_)
        have e9 := hp_7.1.symm
        subst e9
        have e9 := hp_7.2.symm
        subst e9
        refine wo_lald hx hb hK hw 4 1 rfl rfl (12 * b9 + 6 * s9 + p9) rfl (by first | assumption | omega) (by decide) dX6_share_56 ?_
        refine lv_goto (tgt := 61) hx hb dX6_share_57 (by decide) ?_
        exact ct_lret (S := sI S 0 0 (nI 0)) (v := (sI S 0 0 (nI 0)).2 4 (12 * b9 + 6 * s9 + p9)) hx hb hr hlocks hK hw (⟨by simp only [bI, mshG, mthr, sI_2, c_2, ec_b9, c_4, ec_s9, c_6, ec_p9, decide_true, decide_false, Bool.not_true, Bool.not_false, Bool.true_and, Bool.and_true, Bool.false_and, Bool.and_false, Bool.or_true, Bool.true_or, Bool.or_false, Bool.false_or, Bool.false_eq_true, Bool.true_eq_false, if_true, if_false, ↓reduceIte], by simp only [mshG, mthr, sI_2, c_2, ec_b9, c_4, ec_s9, c_6, ec_p9, decide_true, decide_false, Bool.not_true, Bool.not_false, Bool.true_and, Bool.and_true, Bool.false_and, Bool.and_false, Bool.or_true, Bool.true_or, Bool.or_false, Bool.false_or, Bool.false_eq_true, Bool.true_eq_false, if_true, if_false, ↓reduceIte]⟩) dX6_share_61

set_option maxHeartbeats 4000000 in
set_option maxRecDepth 100000 in
theorem kX6_lent (l : Launch) (dC : Nat → ClassId) (dI : Nat → Nat → Nat) (ca : Nat → ClassId) (ad : Nat → Nat) (S : sSt) (rr : Int32) (nb : Nat) (nr : Nat) (hb6 : nb ≤ 6) (hr2 : nr ≤ 200) (hmi : MI nb nr S) : ct_L l yX6_lent (Cond.code yX6_lent cX6_lent 2 (some .long) :: wa_T) ({ frames := 2, cells := 0, slots := 0, locals := 46 } : Room) (dC, dI) vwCl (tyl ca) (wq ca ad) S [.ref (ad 0), .int rr] (fun r S2 => r = (if mrw S rr = true then S.2 16 rr.toNatClampNeg else 0) ∧ S2 = mthr S (mrw S rr)) := by
  refine ct_ofL (by decide) (Nat.le_of_ble_eq_true rfl) ?_
  intro p e s m below meth c A ls hx hb hr hml hts hown hlocks hK hA hw hl
  have hl : lv_has ls 2 [(0, .ref (ad 0)), (1, .int rr)] := hl
  refine lv_aload_n hx hb dX6_lent_0 rfl (lv_at hl 0 rfl) ?_
  refine lv_aload_n hx hb dX6_lent_1 rfl (lv_at hl 0 rfl) ?_
  refine lv_iload_n hx hb dX6_lent_2 rfl (lv_at hl 1 rfl) ?_
  refine wo_vI (As := [.int rr]) (rest := [.ref (ad 0)]) (kX6_isRow l dC dI ca ad S rr) ⟨hx, hb, hml, hown, hts⟩ (cwV 1 hts (wa_gV wd_716 wd_718 ws_19 wd_8 wd_719) rfl rfl rfl (by decide +kernel) ⟨Nat.le_of_ble_eq_true rfl, Nat.le_of_ble_eq_true rfl⟩) hK hw hA 0 rfl rfl rfl rfl hl.1 rfl (Nat.le_of_ble_eq_true rfl) dX6_lent_3 ⟨Nat.zero_le _, Nat.zero_le _⟩ (fun r_1 S_1 H locs hp_1 hw => ?_)
  have e9 := hp_1.1.symm
  subst e9
  have e9 := hp_1.2.symm
  subst e9
  refine lv_if_eq (tgt := 13) hx hb dX6_lent_6 (by decide) (fun c_2 => ?_) (fun c_2 => ?_)
  · skip
    have c_2 : mrw S rr = false := nb_0 c_2
    refine lv_iconst (v := nI 1) hx hb dX6_lent_13 (by decide) ?_
    refine wo_put (ty := .int) (v := .int (nI 1)) hx hb hts inX6 tyX6 tyX6_ok nmX6 hown hK hw 0 rfl rfl 0 (by decide) (hts _ wd_565) (fun _ h9 => h9) rfl (by decide +kernel) rfl rfl (Nat.le_of_ble_eq_true rfl) (sg_0 ca ad S (nI 1)) dX6_lent_14 (fun H locs hw => ?_)
    refine lv_aload_n hx hb dX6_lent_17 rfl (lv_at hl 0 rfl) ?_
    refine wo_get hx hb hts inX6 hown hK hw 0 rfl rfl 0 (by decide) (hts _ wd_565) (fun _ h9 => h9) rfl dX6_lent_18 ?_
    refine tp_i (y := nI 1) (rfl) ?_
    refine lv_if_ne (tgt := 33) hx hb dX6_lent_21 (by decide) (fun _ => ?_) (fun c9 => absurd c9 (by decide))
    refine lv_lconst (v := 0) hx hb dX6_lent_33 (by decide) ?_
    exact ct_lret (S := sI S 0 0 (nI 1)) (v := 0) hx hb hr hlocks hK hw (⟨by simp only [bI, mthr, sI_2, c_2, decide_true, decide_false, Bool.not_true, Bool.not_false, Bool.true_and, Bool.and_true, Bool.false_and, Bool.and_false, Bool.or_true, Bool.true_or, Bool.or_false, Bool.false_or, Bool.false_eq_true, Bool.true_eq_false, if_true, if_false, ↓reduceIte], by simp only [mthr, sI_2, c_2, decide_true, decide_false, Bool.not_true, Bool.not_false, Bool.true_and, Bool.and_true, Bool.false_and, Bool.and_false, Bool.or_true, Bool.true_or, Bool.or_false, Bool.false_or, Bool.false_eq_true, Bool.true_eq_false, if_true, if_false, ↓reduceIte]⟩) dX6_lent_34
  · skip
    have c_2 : mrw S rr = true := nb_1 c_2
    obtain ⟨r9, hr9, hr9n, rfl⟩ := mrw_n hmi.2.2 hr2 c_2
    have ec_r9 := nI_clamp (n := r9) (by omega)
    refine lv_iconst (v := nI 0) hx hb dX6_lent_9 (by decide) ?_
    refine lv_goto (tgt := 14) hx hb dX6_lent_10 (by decide) ?_
    refine wo_put (ty := .int) (v := .int (nI 0)) hx hb hts inX6 tyX6 tyX6_ok nmX6 hown hK hw 0 rfl rfl 0 (by decide) (hts _ wd_565) (fun _ h9 => h9) rfl (by decide +kernel) rfl rfl (Nat.le_of_ble_eq_true rfl) (sg_0 ca ad S (nI 0)) dX6_lent_14 (fun H locs hw => ?_)
    refine lv_aload_n hx hb dX6_lent_17 rfl (lv_at hl 0 rfl) ?_
    refine wo_get hx hb hts inX6 hown hK hw 0 rfl rfl 0 (by decide) (hts _ wd_565) (fun _ h9 => h9) rfl dX6_lent_18 ?_
    refine tp_i (y := nI 0) (rfl) ?_
    refine lv_if_ne (tgt := 33) hx hb dX6_lent_21 (by decide) (fun c9 => absurd c9 (by decide)) (fun _ => ?_)
    refine lv_aload_n hx hb dX6_lent_24 rfl (lv_at hl 0 rfl) ?_
    refine wo_get hx hb hts inX6 hown hK hw 0 rfl rfl 18 (by decide) (hts _ wd_583) (fun _ h9 => h9) rfl dX6_lent_25 ?_
    refine lv_iload_n hx hb dX6_lent_28 rfl (lv_at hl 1 rfl) ?_
    refine wo_lald hx hb hK hw 16 1 rfl rfl r9 rfl (by first | assumption | omega) (by decide) dX6_lent_29 ?_
    refine lv_goto (tgt := 34) hx hb dX6_lent_30 (by decide) ?_
    exact ct_lret (S := sI S 0 0 (nI 0)) (v := (sI S 0 0 (nI 0)).2 16 r9) hx hb hr hlocks hK hw (⟨by simp only [bI, mthr, sI_2, c_2, ec_r9, decide_true, decide_false, Bool.not_true, Bool.not_false, Bool.true_and, Bool.and_true, Bool.false_and, Bool.and_false, Bool.or_true, Bool.true_or, Bool.or_false, Bool.false_or, Bool.false_eq_true, Bool.true_eq_false, if_true, if_false, ↓reduceIte], by simp only [mthr, sI_2, c_2, ec_r9, decide_true, decide_false, Bool.not_true, Bool.not_false, Bool.true_and, Bool.and_true, Bool.false_and, Bool.and_false, Bool.or_true, Bool.true_or, Bool.or_false, Bool.false_or, Bool.false_eq_true, Bool.true_eq_false, if_true, if_false, ↓reduceIte]⟩) dX6_lent_34

set_option maxHeartbeats 4000000 in
set_option maxRecDepth 100000 in
theorem kX6_waits (l : Launch) (dC : Nat → ClassId) (dI : Nat → Nat → Nat) (ca : Nat → ClassId) (ad : Nat → Nat) (S : sSt) (pp : Int32) (kk : Int32) (nb : Nat) (nr : Nat) (hb6 : nb ≤ 6) (hr2 : nr ≤ 200) (hmi : MI nb nr S) : ct_L l yX6_waits (Cond.code yX6_waits cX6_waits 3 (some .long) :: wa_T) ({ frames := 1, cells := 0, slots := 0, locals := 25 } : Room) (dC, dI) vwCl (tyl ca) (wq ca ad) S [.ref (ad 0), .int pp, .int kk] (fun r S2 => r = (if mwtG S pp kk = true then S.2 11 (8 * pp.toNatClampNeg + kk.toNatClampNeg) else 0) ∧ S2 = mthr S (mwtG S pp kk)) := by
  refine ct_ofL (by decide) (Nat.le_of_ble_eq_true rfl) ?_
  intro p e s m below meth c A ls hx hb hr hml hts hown hlocks hK hA hw hl
  have hl : lv_has ls 3 [(0, .ref (ad 0)), (1, .int pp), (2, .int kk)] := hl
  refine lv_aload_n hx hb dX6_waits_0 rfl (lv_at hl 0 rfl) ?_
  refine lv_iload_n hx hb dX6_waits_1 rfl (lv_at hl 1 rfl) ?_
  refine lv_i2l hx hb dX6_waits_2 rfl ?_
  refine lv_lconst (v := 0) hx hb dX6_waits_3 (by decide) ?_
  refine lv_ldc2 hx hb hown (hts _ wd_659) dX6_waits_4 ?_
  refine wo_sI (As := [.long ((pp).toInt64), .long 0, .long 5]) (rest := [.ref (ad 0)]) (kX6_within l dC dI ca ad S ((pp).toInt64) 0 5) ⟨hx, hb, hml, hown, hts⟩ (va_cwS 3 hts (wa_gS wd_660 wd_661 wd_8 wd_662) rfl rfl rfl (by decide +kernel) ⟨Nat.le_of_ble_eq_true rfl, Nat.le_of_ble_eq_true rfl⟩) hK hw hA rfl hl.1 rfl (Nat.le_of_ble_eq_true rfl) dX6_waits_7 ⟨Nat.zero_le _, Nat.zero_le _⟩ (fun r_1 S_1 H locs hp_1 hw => ?_)
  have e9 := hp_1.1.symm
  subst e9
  have e9 := hp_1.2.symm
  subst e9
  refine lv_if_eq (tgt := 35) hx hb dX6_waits_10 (by decide) (fun c_2 => ?_) (fun c_2 => ?_)
  · skip
    have c_2 : wth ((pp).toInt64) 0 5 = false := nb_0 c_2
    refine lv_iconst (v := nI 1) hx hb dX6_waits_35 (by decide) ?_
    refine wo_put (ty := .int) (v := .int (nI 1)) hx hb hts inX6 tyX6 tyX6_ok nmX6 hown hK hw 0 rfl rfl 0 (by decide) (hts _ wd_565) (fun _ h9 => h9) rfl (by decide +kernel) rfl rfl (Nat.le_of_ble_eq_true rfl) (sg_0 ca ad S (nI 1)) dX6_waits_36 (fun H locs hw => ?_)
    refine lv_aload_n hx hb dX6_waits_39 rfl (lv_at hl 0 rfl) ?_
    refine wo_get hx hb hts inX6 hown hK hw 0 rfl rfl 0 (by decide) (hts _ wd_565) (fun _ h9 => h9) rfl dX6_waits_40 ?_
    refine tp_i (y := nI 1) (rfl) ?_
    refine lv_if_ne (tgt := 60) hx hb dX6_waits_43 (by decide) (fun _ => ?_) (fun c9 => absurd c9 (by decide))
    refine lv_lconst (v := 0) hx hb dX6_waits_60 (by decide) ?_
    exact ct_lret (S := sI S 0 0 (nI 1)) (v := 0) hx hb hr hlocks hK hw (⟨by simp only [bI, mwtG, mthr, sI_2, c_2, decide_true, decide_false, Bool.not_true, Bool.not_false, Bool.true_and, Bool.and_true, Bool.false_and, Bool.and_false, Bool.or_true, Bool.true_or, Bool.or_false, Bool.false_or, Bool.false_eq_true, Bool.true_eq_false, if_true, if_false, ↓reduceIte], by simp only [mwtG, mthr, sI_2, c_2, decide_true, decide_false, Bool.not_true, Bool.not_false, Bool.true_and, Bool.and_true, Bool.false_and, Bool.and_false, Bool.or_true, Bool.true_or, Bool.or_false, Bool.false_or, Bool.false_eq_true, Bool.true_eq_false, if_true, if_false, ↓reduceIte]⟩) dX6_waits_61
  · skip
    have c_2 : wth ((pp).toInt64) 0 5 = true := nb_1 c_2
    obtain ⟨p9, hp9, rfl⟩ := w5_n c_2
    have ec_p9 := nI_clamp (n := p9) (by omega)
    refine lv_iload_n hx hb dX6_waits_13 rfl (lv_at hl 2 rfl) ?_
    refine lv_i2l hx hb dX6_waits_14 rfl ?_
    refine lv_lconst (v := 0) hx hb dX6_waits_15 (by decide) ?_
    refine lv_aload_n hx hb dX6_waits_16 rfl (lv_at hl 0 rfl) ?_
    refine wo_get hx hb hts inX6 hown hK hw 0 rfl rfl 10 (by decide) (hts _ wd_575) (fun _ h9 => h9) rfl dX6_waits_17 ?_
    refine lv_iload_n hx hb dX6_waits_20 rfl (lv_at hl 1 rfl) ?_
    refine wo_iald hx hb hK hw 9 0 rfl rfl p9 rfl (by first | assumption | omega) (by decide) dX6_waits_21 ?_
    refine lv_i2l hx hb dX6_waits_22 rfl ?_
    refine lv_lconst (v := 1) hx hb dX6_waits_23 (by decide) ?_
    refine lv_lsub hx hb dX6_waits_24 ?_
    refine wo_sI (As := [.long ((kk).toInt64), .long 0, .long ((((S.1 9 p9)).toInt64) - 1)]) (rest := [.ref (ad 0)]) (kX6_within l dC dI ca ad S ((kk).toInt64) 0 ((((S.1 9 p9)).toInt64) - 1)) ⟨hx, hb, hml, hown, hts⟩ (va_cwS 3 hts (wa_gS wd_660 wd_661 wd_8 wd_662) rfl rfl rfl (by decide +kernel) ⟨Nat.le_of_ble_eq_true rfl, Nat.le_of_ble_eq_true rfl⟩) hK hw hA rfl hl.1 rfl (Nat.le_of_ble_eq_true rfl) dX6_waits_25 ⟨Nat.zero_le _, Nat.zero_le _⟩ (fun r_3 S_3 H locs hp_3 hw => ?_)
    have e9 := hp_3.1.symm
    subst e9
    have e9 := hp_3.2.symm
    subst e9
    refine lv_if_eq (tgt := 35) hx hb dX6_waits_28 (by decide) (fun c_4 => ?_) (fun c_4 => ?_)
    · skip
      have c_4 : wth ((kk).toInt64) 0 ((((S.1 9 p9)).toInt64) - 1) = false := nb_0 c_4
      refine lv_iconst (v := nI 1) hx hb dX6_waits_35 (by decide) ?_
      refine wo_put (ty := .int) (v := .int (nI 1)) hx hb hts inX6 tyX6 tyX6_ok nmX6 hown hK hw 0 rfl rfl 0 (by decide) (hts _ wd_565) (fun _ h9 => h9) rfl (by decide +kernel) rfl rfl (Nat.le_of_ble_eq_true rfl) (sg_0 ca ad S (nI 1)) dX6_waits_36 (fun H locs hw => ?_)
      refine lv_aload_n hx hb dX6_waits_39 rfl (lv_at hl 0 rfl) ?_
      refine wo_get hx hb hts inX6 hown hK hw 0 rfl rfl 0 (by decide) (hts _ wd_565) (fun _ h9 => h9) rfl dX6_waits_40 ?_
      refine tp_i (y := nI 1) (rfl) ?_
      refine lv_if_ne (tgt := 60) hx hb dX6_waits_43 (by decide) (fun _ => ?_) (fun c9 => absurd c9 (by decide))
      refine lv_lconst (v := 0) hx hb dX6_waits_60 (by decide) ?_
      exact ct_lret (S := sI S 0 0 (nI 1)) (v := 0) hx hb hr hlocks hK hw (⟨by simp only [bI, mwtG, mthr, sI_2, c_2, ec_p9, c_4, decide_true, decide_false, Bool.not_true, Bool.not_false, Bool.true_and, Bool.and_true, Bool.false_and, Bool.and_false, Bool.or_true, Bool.true_or, Bool.or_false, Bool.false_or, Bool.false_eq_true, Bool.true_eq_false, if_true, if_false, ↓reduceIte], by simp only [mwtG, mthr, sI_2, c_2, ec_p9, c_4, decide_true, decide_false, Bool.not_true, Bool.not_false, Bool.true_and, Bool.and_true, Bool.false_and, Bool.and_false, Bool.or_true, Bool.true_or, Bool.or_false, Bool.false_or, Bool.false_eq_true, Bool.true_eq_false, if_true, if_false, ↓reduceIte]⟩) dX6_waits_61
    · skip
      have c_4 : wth ((kk).toInt64) 0 ((((S.1 9 p9)).toInt64) - 1) = true := nb_1 c_4
      obtain ⟨kq, hk8, hq, -⟩ := hmi.1 p9 hp9
      obtain ⟨k9, -, hk9, hk31, rfl⟩ := wth_n (lo := 0) (a := 0) (by decide) (nb1_toInt (nb := kq) (by omega)) (by rw [← hq]; exact c_4)
      have ec_k9 := nI_clamp (n := k9) (by omega)
      refine lv_iconst (v := nI 0) hx hb dX6_waits_31 (by decide) ?_
      refine lv_goto (tgt := 36) hx hb dX6_waits_32 (by decide) ?_
      refine wo_put (ty := .int) (v := .int (nI 0)) hx hb hts inX6 tyX6 tyX6_ok nmX6 hown hK hw 0 rfl rfl 0 (by decide) (hts _ wd_565) (fun _ h9 => h9) rfl (by decide +kernel) rfl rfl (Nat.le_of_ble_eq_true rfl) (sg_0 ca ad S (nI 0)) dX6_waits_36 (fun H locs hw => ?_)
      refine lv_aload_n hx hb dX6_waits_39 rfl (lv_at hl 0 rfl) ?_
      refine wo_get hx hb hts inX6 hown hK hw 0 rfl rfl 0 (by decide) (hts _ wd_565) (fun _ h9 => h9) rfl dX6_waits_40 ?_
      refine tp_i (y := nI 0) (rfl) ?_
      refine lv_if_ne (tgt := 60) hx hb dX6_waits_43 (by decide) (fun c9 => absurd c9 (by decide)) (fun _ => ?_)
      refine lv_aload_n hx hb dX6_waits_46 rfl (lv_at hl 0 rfl) ?_
      refine wo_get hx hb hts inX6 hown hK hw 0 rfl rfl 12 (by decide) (hts _ wd_577) (fun _ h9 => h9) rfl dX6_waits_47 ?_
      refine lv_bipush (v := nI 8) hx hb dX6_waits_50 (by decide) ?_
      refine lv_iload_n hx hb dX6_waits_52 rfl (lv_at hl 1 rfl) ?_
      refine lv_imul hx hb dX6_waits_53 ?_
      refine tp_i (pk_mul 8 p9) ?_
      refine lv_iload_n hx hb dX6_waits_54 rfl (lv_at hl 2 rfl) ?_
      refine lv_iadd hx hb dX6_waits_55 ?_
      refine tp_i (nI_add (8 * p9) k9) ?_
      refine wo_lald hx hb hK hw 11 1 rfl rfl ((8 * p9) + k9) rfl (by first | assumption | omega) (by decide) dX6_waits_56 ?_
      refine lv_goto (tgt := 61) hx hb dX6_waits_57 (by decide) ?_
      exact ct_lret (S := sI S 0 0 (nI 0)) (v := (sI S 0 0 (nI 0)).2 11 ((8 * p9) + k9)) hx hb hr hlocks hK hw (⟨by simp only [bI, mwtG, mthr, sI_2, c_2, ec_p9, c_4, ec_k9, decide_true, decide_false, Bool.not_true, Bool.not_false, Bool.true_and, Bool.and_true, Bool.false_and, Bool.and_false, Bool.or_true, Bool.true_or, Bool.or_false, Bool.false_or, Bool.false_eq_true, Bool.true_eq_false, if_true, if_false, ↓reduceIte], by simp only [mwtG, mthr, sI_2, c_2, ec_p9, c_4, ec_k9, decide_true, decide_false, Bool.not_true, Bool.not_false, Bool.true_and, Bool.and_true, Bool.false_and, Bool.and_false, Bool.or_true, Bool.true_or, Bool.or_false, Bool.false_or, Bool.false_eq_true, Bool.true_eq_false, if_true, if_false, ↓reduceIte]⟩) dX6_waits_61
