theorem dX6_sum_0 : decode cX6_sum 0 = .ok (.aload_n 0, 1) := by decide +kernel
theorem dX6_sum_1 : decode cX6_sum 1 = .ok (.aload_n 0, 1) := by decide +kernel
theorem dX6_sum_2 : decode cX6_sum 2 = .ok (.iload_n 1, 1) := by decide +kernel
theorem dX6_sum_3 : decode cX6_sum 3 = .ok (.invokevirtual 118, 3) := by decide +kernel
theorem dX6_sum_6 : decode cX6_sum 6 = .ok (.ifCond .eq 19, 3) := by decide +kernel
theorem dX6_sum_9 : decode cX6_sum 9 = .ok (.iload_n 2, 1) := by decide +kernel
theorem dX6_sum_10 : decode cX6_sum 10 = .ok (.i2l, 1) := by decide +kernel
theorem dX6_sum_11 : decode cX6_sum 11 = .ok (.lconst 0, 1) := by decide +kernel
theorem dX6_sum_12 : decode cX6_sum 12 = .ok (.ldc2_w 150, 3) := by decide +kernel
theorem dX6_sum_15 : decode cX6_sum 15 = .ok (.invokestatic 84, 3) := by decide +kernel
theorem dX6_sum_18 : decode cX6_sum 18 = .ok (.ifCond .eq 7, 3) := by decide +kernel
theorem dX6_sum_21 : decode cX6_sum 21 = .ok (.iconst 0, 1) := by decide +kernel
theorem dX6_sum_22 : decode cX6_sum 22 = .ok (.goto 4, 3) := by decide +kernel
theorem dX6_sum_25 : decode cX6_sum 25 = .ok (.iconst 1, 1) := by decide +kernel
theorem dX6_sum_26 : decode cX6_sum 26 = .ok (.putfield 78, 3) := by decide +kernel
theorem dX6_sum_29 : decode cX6_sum 29 = .ok (.aload_n 0, 1) := by decide +kernel
theorem dX6_sum_30 : decode cX6_sum 30 = .ok (.getfield 78, 3) := by decide +kernel
theorem dX6_sum_33 : decode cX6_sum 33 = .ok (.ifCond .eq 5, 3) := by decide +kernel
theorem dX6_sum_36 : decode cX6_sum 36 = .ok (.lconst 0, 1) := by decide +kernel
theorem dX6_sum_37 : decode cX6_sum 37 = .ok (.lreturn, 1) := by decide +kernel
theorem dX6_sum_38 : decode cX6_sum 38 = .ok (.iload_n 2, 1) := by decide +kernel
theorem dX6_sum_39 : decode cX6_sum 39 = .ok (.iconst 1, 1) := by decide +kernel
theorem dX6_sum_40 : decode cX6_sum 40 = .ok (.isub, 1) := by decide +kernel
theorem dX6_sum_41 : decode cX6_sum 41 = .ok (.iconst 2, 1) := by decide +kernel
theorem dX6_sum_42 : decode cX6_sum 42 = .ok (.irem, 1) := by decide +kernel
theorem dX6_sum_43 : decode cX6_sum 43 = .ok (.istore_n 3, 1) := by decide +kernel
theorem dX6_sum_44 : decode cX6_sum 44 = .ok (.iload_n 2, 1) := by decide +kernel
theorem dX6_sum_45 : decode cX6_sum 45 = .ok (.tableswitch 84 0 6 #[43, 50, 57, 64, 64, 74, 74], 43) := by decide +kernel
theorem dX6_sum_88 : decode cX6_sum 88 = .ok (.aload_n 0, 1) := by decide +kernel
theorem dX6_sum_89 : decode cX6_sum 89 = .ok (.getfield 13, 3) := by decide +kernel
theorem dX6_sum_92 : decode cX6_sum 92 = .ok (.iload_n 1, 1) := by decide +kernel
theorem dX6_sum_93 : decode cX6_sum 93 = .ok (.laload, 1) := by decide +kernel
theorem dX6_sum_94 : decode cX6_sum 94 = .ok (.lreturn, 1) := by decide +kernel
theorem dX6_sum_95 : decode cX6_sum 95 = .ok (.aload_n 0, 1) := by decide +kernel
theorem dX6_sum_96 : decode cX6_sum 96 = .ok (.getfield 7, 3) := by decide +kernel
theorem dX6_sum_99 : decode cX6_sum 99 = .ok (.iload_n 1, 1) := by decide +kernel
theorem dX6_sum_100 : decode cX6_sum 100 = .ok (.laload, 1) := by decide +kernel
theorem dX6_sum_101 : decode cX6_sum 101 = .ok (.lreturn, 1) := by decide +kernel
theorem dX6_sum_102 : decode cX6_sum 102 = .ok (.aload_n 0, 1) := by decide +kernel
theorem dX6_sum_103 : decode cX6_sum 103 = .ok (.getfield 16, 3) := by decide +kernel
theorem dX6_sum_106 : decode cX6_sum 106 = .ok (.iload_n 1, 1) := by decide +kernel
theorem dX6_sum_107 : decode cX6_sum 107 = .ok (.laload, 1) := by decide +kernel
theorem dX6_sum_108 : decode cX6_sum 108 = .ok (.lreturn, 1) := by decide +kernel
theorem dX6_sum_109 : decode cX6_sum 109 = .ok (.aload_n 0, 1) := by decide +kernel
theorem dX6_sum_110 : decode cX6_sum 110 = .ok (.iload_n 1, 1) := by decide +kernel
theorem dX6_sum_111 : decode cX6_sum 111 = .ok (.iload_n 2, 1) := by decide +kernel
theorem dX6_sum_112 : decode cX6_sum 112 = .ok (.iconst 3, 1) := by decide +kernel
theorem dX6_sum_113 : decode cX6_sum 113 = .ok (.isub, 1) := by decide +kernel
theorem dX6_sum_114 : decode cX6_sum 114 = .ok (.iconst 1, 1) := by decide +kernel
theorem dX6_sum_115 : decode cX6_sum 115 = .ok (.invokevirtual 152, 3) := by decide +kernel
theorem dX6_sum_118 : decode cX6_sum 118 = .ok (.lreturn, 1) := by decide +kernel
theorem dX6_sum_119 : decode cX6_sum 119 = .ok (.aload_n 0, 1) := by decide +kernel
theorem dX6_sum_120 : decode cX6_sum 120 = .ok (.iload_n 1, 1) := by decide +kernel
theorem dX6_sum_121 : decode cX6_sum 121 = .ok (.iload_n 2, 1) := by decide +kernel
theorem dX6_sum_122 : decode cX6_sum 122 = .ok (.iconst 5, 1) := by decide +kernel
theorem dX6_sum_123 : decode cX6_sum 123 = .ok (.isub, 1) := by decide +kernel
theorem dX6_sum_124 : decode cX6_sum 124 = .ok (.iconst 0, 1) := by decide +kernel
theorem dX6_sum_125 : decode cX6_sum 125 = .ok (.invokevirtual 156, 3) := by decide +kernel
theorem dX6_sum_128 : decode cX6_sum 128 = .ok (.lreturn, 1) := by decide +kernel
theorem dX6_sum_129 : decode cX6_sum 129 = .ok (.aload_n 0, 1) := by decide +kernel
theorem dX6_sum_130 : decode cX6_sum 130 = .ok (.iload_n 1, 1) := by decide +kernel
theorem dX6_sum_131 : decode cX6_sum 131 = .ok (.iload_n 3, 1) := by decide +kernel
theorem dX6_sum_132 : decode cX6_sum 132 = .ok (.iconst 0, 1) := by decide +kernel
theorem dX6_sum_133 : decode cX6_sum 133 = .ok (.invokevirtual 152, 3) := by decide +kernel
theorem dX6_sum_136 : decode cX6_sum 136 = .ok (.aload_n 0, 1) := by decide +kernel
theorem dX6_sum_137 : decode cX6_sum 137 = .ok (.iload_n 1, 1) := by decide +kernel
theorem dX6_sum_138 : decode cX6_sum 138 = .ok (.iload_n 3, 1) := by decide +kernel
theorem dX6_sum_139 : decode cX6_sum 139 = .ok (.iconst 1, 1) := by decide +kernel
theorem dX6_sum_140 : decode cX6_sum 140 = .ok (.invokevirtual 156, 3) := by decide +kernel
theorem dX6_sum_143 : decode cX6_sum 143 = .ok (.ladd, 1) := by decide +kernel
theorem dX6_sum_144 : decode cX6_sum 144 = .ok (.lreturn, 1) := by decide +kernel

set_option maxHeartbeats 4000000 in
set_option maxRecDepth 100000 in
theorem kX6_sum (l : Launch) (dC : Nat → ClassId) (dI : Nat → Nat → Nat) (ca : Nat → ClassId) (ad : Nat → Nat) (S : sSt) (bb : Int32) (wh : Int32) (nb : Nat) (nr : Nat) (hb6 : nb ≤ 6) (hr2 : nr ≤ 200) (hmi : MI nb nr S) : ct_L l yX6_sum (Cond.code yX6_sum cX6_sum 4 (some .long) :: wa_T) ({ frames := 3, cells := 0, slots := 0, locals := 73 } : Room) (dC, dI) vwCl (tyl ca) (wq ca ad) S [.ref (ad 0), .int bb, .int wh] (fun r S2 => r = (if msmG S bb wh = true then msmV (sI S 0 0 (nI 0)) bb.toNatClampNeg nr wh else 0) ∧ S2 = mthr S (msmG S bb wh)) := by
  refine ct_ofL (by decide) (Nat.le_of_ble_eq_true rfl) ?_
  intro p e s m below meth c A ls hx hb hr hml hts hown hlocks hK hA hw hl
  have hl : lv_has ls 4 [(0, .ref (ad 0)), (1, .int bb), (2, .int wh)] := hl
  refine lv_aload_n hx hb dX6_sum_0 rfl (lv_at hl 0 rfl) ?_
  refine lv_aload_n hx hb dX6_sum_1 rfl (lv_at hl 0 rfl) ?_
  refine lv_iload_n hx hb dX6_sum_2 rfl (lv_at hl 1 rfl) ?_
  refine wo_vI (As := [.int bb]) (rest := [.ref (ad 0)]) (kX6_isBound l dC dI ca ad S bb) ⟨hx, hb, hml, hown, hts⟩ (cwV 1 hts (wa_gV wd_691 wd_693 ws_16 wd_8 wd_694) rfl rfl rfl (by decide +kernel) ⟨Nat.le_of_ble_eq_true rfl, Nat.le_of_ble_eq_true rfl⟩) hK hw hA 0 rfl rfl rfl rfl hl.1 rfl (Nat.le_of_ble_eq_true rfl) dX6_sum_3 ⟨Nat.zero_le _, Nat.zero_le _⟩ (fun r_1 S_1 H locs hp_1 hw => ?_)
  have e9 := hp_1.1.symm
  subst e9
  have e9 := hp_1.2.symm
  subst e9
  refine lv_if_eq (tgt := 25) hx hb dX6_sum_6 (by decide) (fun c_2 => ?_) (fun c_2 => ?_)
  · skip
    have c_2 : mbd S bb = false := nb_0 c_2
    refine lv_iconst (v := nI 1) hx hb dX6_sum_25 (by decide) ?_
    refine wo_put (ty := .int) (v := .int (nI 1)) hx hb hts inX6 tyX6 tyX6_ok nmX6 hown hK hw 0 rfl rfl 0 (by decide) (hts _ wd_565) (fun _ h9 => h9) rfl (by decide +kernel) rfl rfl (Nat.le_of_ble_eq_true rfl) (sg_0 ca ad S (nI 1)) dX6_sum_26 (fun H locs hw => ?_)
    refine lv_aload_n hx hb dX6_sum_29 rfl (lv_at hl 0 rfl) ?_
    refine wo_get hx hb hts inX6 hown hK hw 0 rfl rfl 0 (by decide) (hts _ wd_565) (fun _ h9 => h9) rfl dX6_sum_30 ?_
    refine tp_i (y := nI 1) (rfl) ?_
    refine lv_if_eq (tgt := 38) hx hb dX6_sum_33 (by decide) (fun c9 => absurd c9 (by decide)) (fun _ => ?_)
    refine lv_lconst (v := 0) hx hb dX6_sum_36 (by decide) ?_
    exact ct_lret (S := sI S 0 0 (nI 1)) (v := 0) hx hb hr hlocks hK hw (⟨by simp only [msmG, c_2, decide_true, decide_false, Bool.not_true, Bool.not_false, Bool.true_and, Bool.and_true, Bool.false_and, Bool.and_false, Bool.or_true, Bool.true_or, Bool.or_false, Bool.false_or, Bool.false_eq_true, Bool.true_eq_false, if_true, if_false, ↓reduceIte], by simp only [mthr, msmG, c_2, decide_true, decide_false, Bool.not_true, Bool.not_false, Bool.true_and, Bool.and_true, Bool.false_and, Bool.and_false, Bool.or_true, Bool.true_or, Bool.or_false, Bool.false_or, Bool.false_eq_true, Bool.true_eq_false, if_true, if_false, ↓reduceIte]⟩) dX6_sum_37
  · skip
    have c_2 : mbd S bb = true := nb_1 c_2
    obtain ⟨b9, hb9, rfl⟩ := mbd_n hmi.2.1 hb6 c_2
    have ec_b9 := nI_clamp (n := b9) (by omega)
    refine lv_iload_n hx hb dX6_sum_9 rfl (lv_at hl 2 rfl) ?_
    refine lv_i2l hx hb dX6_sum_10 rfl ?_
    refine lv_lconst (v := 0) hx hb dX6_sum_11 (by decide) ?_
    refine lv_ldc2 hx hb hown (hts _ wd_752) dX6_sum_12 ?_
    refine wo_sI (As := [.long ((wh).toInt64), .long 0, .long 8]) (rest := [.ref (ad 0)]) (kX6_within l dC dI ca ad S ((wh).toInt64) 0 8) ⟨hx, hb, hml, hown, hts⟩ (va_cwS 3 hts (wa_gS wd_660 wd_661 wd_8 wd_662) rfl rfl rfl (by decide +kernel) ⟨Nat.le_of_ble_eq_true rfl, Nat.le_of_ble_eq_true rfl⟩) hK hw hA rfl hl.1 rfl (Nat.le_of_ble_eq_true rfl) dX6_sum_15 ⟨Nat.zero_le _, Nat.zero_le _⟩ (fun r_3 S_3 H locs hp_3 hw => ?_)
    have e9 := hp_3.1.symm
    subst e9
    have e9 := hp_3.2.symm
    subst e9
    refine lv_if_eq (tgt := 25) hx hb dX6_sum_18 (by decide) (fun c_4 => ?_) (fun c_4 => ?_)
    · skip
      have c_4 : wth ((wh).toInt64) 0 8 = false := nb_0 c_4
      refine lv_iconst (v := nI 1) hx hb dX6_sum_25 (by decide) ?_
      refine wo_put (ty := .int) (v := .int (nI 1)) hx hb hts inX6 tyX6 tyX6_ok nmX6 hown hK hw 0 rfl rfl 0 (by decide) (hts _ wd_565) (fun _ h9 => h9) rfl (by decide +kernel) rfl rfl (Nat.le_of_ble_eq_true rfl) (sg_0 ca ad S (nI 1)) dX6_sum_26 (fun H locs hw => ?_)
      refine lv_aload_n hx hb dX6_sum_29 rfl (lv_at hl 0 rfl) ?_
      refine wo_get hx hb hts inX6 hown hK hw 0 rfl rfl 0 (by decide) (hts _ wd_565) (fun _ h9 => h9) rfl dX6_sum_30 ?_
      refine tp_i (y := nI 1) (rfl) ?_
      refine lv_if_eq (tgt := 38) hx hb dX6_sum_33 (by decide) (fun c9 => absurd c9 (by decide)) (fun _ => ?_)
      refine lv_lconst (v := 0) hx hb dX6_sum_36 (by decide) ?_
      exact ct_lret (S := sI S 0 0 (nI 1)) (v := 0) hx hb hr hlocks hK hw (⟨by simp only [msmG, c_2, ec_b9, c_4, decide_true, decide_false, Bool.not_true, Bool.not_false, Bool.true_and, Bool.and_true, Bool.false_and, Bool.and_false, Bool.or_true, Bool.true_or, Bool.or_false, Bool.false_or, Bool.false_eq_true, Bool.true_eq_false, if_true, if_false, ↓reduceIte], by simp only [mthr, msmG, c_2, ec_b9, c_4, decide_true, decide_false, Bool.not_true, Bool.not_false, Bool.true_and, Bool.and_true, Bool.false_and, Bool.and_false, Bool.or_true, Bool.true_or, Bool.or_false, Bool.false_or, Bool.false_eq_true, Bool.true_eq_false, if_true, if_false, ↓reduceIte]⟩) dX6_sum_37
    · skip
      have c_4 : wth ((wh).toInt64) 0 8 = true := nb_1 c_4
      have hwh := w8_n c_4
      have hG : msmG S (nI b9) wh = true := by simp only [msmG, c_2, ec_b9, c_4, decide_true, decide_false, Bool.not_true, Bool.not_false, Bool.true_and, Bool.and_true, Bool.false_and, Bool.and_false, Bool.or_true, Bool.true_or, Bool.or_false, Bool.false_or, Bool.false_eq_true, Bool.true_eq_false, if_true, if_false, ↓reduceIte]
      refine lv_iconst (v := nI 0) hx hb dX6_sum_21 (by decide) ?_
      refine lv_goto (tgt := 26) hx hb dX6_sum_22 (by decide) ?_
      refine wo_put (ty := .int) (v := .int (nI 0)) hx hb hts inX6 tyX6 tyX6_ok nmX6 hown hK hw 0 rfl rfl 0 (by decide) (hts _ wd_565) (fun _ h9 => h9) rfl (by decide +kernel) rfl rfl (Nat.le_of_ble_eq_true rfl) (sg_0 ca ad S (nI 0)) dX6_sum_26 (fun H locs hw => ?_)
      refine lv_aload_n hx hb dX6_sum_29 rfl (lv_at hl 0 rfl) ?_
      refine wo_get hx hb hts inX6 hown hK hw 0 rfl rfl 0 (by decide) (hts _ wd_565) (fun _ h9 => h9) rfl dX6_sum_30 ?_
      refine tp_i (y := nI 0) (rfl) ?_
      refine lv_if_eq (tgt := 38) hx hb dX6_sum_33 (by decide) (fun _ => ?_) (fun c9 => absurd c9 (by decide))
      refine lv_iload_n hx hb dX6_sum_38 rfl (lv_at hl 2 rfl) ?_
      refine lv_iconst (v := nI 1) hx hb dX6_sum_39 (by decide) ?_
      refine lv_isub hx hb dX6_sum_40 ?_
      refine lv_iconst (v := nI 2) hx hb dX6_sum_41 (by decide) ?_
      refine lv_irem hx hb dX6_sum_42 (by decide) ?_
      refine tp_i (y := sdm wh) rfl ?_
      refine lv_istore_n (lv' := [(3, .int (sdm wh)), (0, .ref (ad 0)), (1, .int (nI b9)), (2, .int wh)]) hx hb dX6_sum_43 rfl hl (by decide) rfl (fun ls hl => ?_)
      refine lv_iload_n hx hb dX6_sum_44 rfl (lv_at hl 3 rfl) ?_
      by_cases c_5 : wh = nI 0
      · skip
        subst c_5
        refine lv_tableIn (tgt := 88) hx hb dX6_sum_45 (by decide) (by decide) rfl (by decide) ?_
        refine lv_aload_n hx hb dX6_sum_88 rfl (lv_at hl 1 rfl) ?_
        refine wo_get hx hb hts inX6 hown hK hw 0 rfl rfl 3 (by decide) (hts _ wd_568) (fun _ h9 => h9) rfl dX6_sum_89 ?_
        refine lv_iload_n hx hb dX6_sum_92 rfl (lv_at hl 2 rfl) ?_
        refine wo_lald hx hb hK hw 2 1 rfl rfl b9 rfl (by first | assumption | omega) (by decide) dX6_sum_93 ?_
        exact ct_lret (S := sI S 0 0 (nI 0)) (v := (sI S 0 0 (nI 0)).2 2 b9) hx hb hr hlocks hK hw (⟨by rw [if_pos hG, ec_b9]; rfl, by rw [mthr, if_pos hG]⟩) dX6_sum_94
      by_cases c_6 : wh = nI 1
      · skip
        subst c_6
        refine lv_tableIn (tgt := 95) hx hb dX6_sum_45 (by decide) (by decide) rfl (by decide) ?_
        refine lv_aload_n hx hb dX6_sum_95 rfl (lv_at hl 1 rfl) ?_
        refine wo_get hx hb hts inX6 hown hK hw 0 rfl rfl 2 (by decide) (hts _ wd_567) (fun _ h9 => h9) rfl dX6_sum_96 ?_
        refine lv_iload_n hx hb dX6_sum_99 rfl (lv_at hl 2 rfl) ?_
        refine wo_lald hx hb hK hw 1 1 rfl rfl b9 rfl (by first | assumption | omega) (by decide) dX6_sum_100 ?_
        exact ct_lret (S := sI S 0 0 (nI 0)) (v := (sI S 0 0 (nI 0)).2 1 b9) hx hb hr hlocks hK hw (⟨by rw [if_pos hG, ec_b9]; rfl, by rw [mthr, if_pos hG]⟩) dX6_sum_101
      by_cases c_7 : wh = nI 2
      · skip
        subst c_7
        refine lv_tableIn (tgt := 102) hx hb dX6_sum_45 (by decide) (by decide) rfl (by decide) ?_
        refine lv_aload_n hx hb dX6_sum_102 rfl (lv_at hl 1 rfl) ?_
        refine wo_get hx hb hts inX6 hown hK hw 0 rfl rfl 4 (by decide) (hts _ wd_569) (fun _ h9 => h9) rfl dX6_sum_103 ?_
        refine lv_iload_n hx hb dX6_sum_106 rfl (lv_at hl 2 rfl) ?_
        refine wo_lald hx hb hK hw 3 1 rfl rfl b9 rfl (by first | assumption | omega) (by decide) dX6_sum_107 ?_
        exact ct_lret (S := sI S 0 0 (nI 0)) (v := (sI S 0 0 (nI 0)).2 3 b9) hx hb hr hlocks hK hw (⟨by rw [if_pos hG, ec_b9]; rfl, by rw [mthr, if_pos hG]⟩) dX6_sum_108
      by_cases c_8 : wh = nI 3
      · skip
        subst c_8
        refine lv_tableIn (tgt := 109) hx hb dX6_sum_45 (by decide) (by decide) rfl (by decide) ?_
        refine lv_aload_n hx hb dX6_sum_109 rfl (lv_at hl 1 rfl) ?_
        refine lv_iload_n hx hb dX6_sum_110 rfl (lv_at hl 2 rfl) ?_
        refine lv_iload_n hx hb dX6_sum_111 rfl (lv_at hl 3 rfl) ?_
        refine lv_iconst (v := nI 3) hx hb dX6_sum_112 (by decide) ?_
        refine lv_isub hx hb dX6_sum_113 ?_
        refine tp_i (pk_sub (a := 3) (b := 3) (by omega)) ?_
        refine lv_iconst (v := nI 1) hx hb dX6_sum_114 (by decide) ?_
        refine wo_vL (As := [.int (nI b9), .int (nI (3 - 3)), .int (nI 1)]) (rest := []) (kX6_shares l dC dI ca ad (sI S 0 0 (nI 0)) b9 (3 - 3) true (by first | assumption | omega) (by first | assumption | omega)) ⟨hx, hb, hml, hown, hts⟩ (cwV 3 hts (wa_gV wd_753 wd_755 ws_23 wd_8 wd_756) rfl rfl rfl (by decide +kernel) ⟨Nat.le_of_ble_eq_true rfl, Nat.le_of_ble_eq_true rfl⟩) hK hw hA 0 rfl rfl rfl rfl hl.1 rfl (Nat.le_of_ble_eq_true rfl) dX6_sum_115 ⟨Nat.zero_le _, Nat.zero_le _⟩ (fun r_9 S_9 H locs hp_9 hw => ?_)
        have e9 := hp_9.1.symm
        subst e9
        have e9 := hp_9.2.symm
        subst e9
        exact ct_lret (S := sI S 0 0 (nI 0)) (v := mshs (sI S 0 0 (nI 0)) b9 (3 - 3) true 6) hx hb hr hlocks hK hw (⟨by rw [if_pos hG, ec_b9]; rfl, by rw [mthr, if_pos hG]⟩) dX6_sum_118
      by_cases c_10 : wh = nI 4
      · skip
        subst c_10
        refine lv_tableIn (tgt := 109) hx hb dX6_sum_45 (by decide) (by decide) rfl (by decide) ?_
        refine lv_aload_n hx hb dX6_sum_109 rfl (lv_at hl 1 rfl) ?_
        refine lv_iload_n hx hb dX6_sum_110 rfl (lv_at hl 2 rfl) ?_
        refine lv_iload_n hx hb dX6_sum_111 rfl (lv_at hl 3 rfl) ?_
        refine lv_iconst (v := nI 3) hx hb dX6_sum_112 (by decide) ?_
        refine lv_isub hx hb dX6_sum_113 ?_
        refine tp_i (pk_sub (a := 4) (b := 3) (by omega)) ?_
        refine lv_iconst (v := nI 1) hx hb dX6_sum_114 (by decide) ?_
        refine wo_vL (As := [.int (nI b9), .int (nI (4 - 3)), .int (nI 1)]) (rest := []) (kX6_shares l dC dI ca ad (sI S 0 0 (nI 0)) b9 (4 - 3) true (by first | assumption | omega) (by first | assumption | omega)) ⟨hx, hb, hml, hown, hts⟩ (cwV 3 hts (wa_gV wd_753 wd_755 ws_23 wd_8 wd_756) rfl rfl rfl (by decide +kernel) ⟨Nat.le_of_ble_eq_true rfl, Nat.le_of_ble_eq_true rfl⟩) hK hw hA 0 rfl rfl rfl rfl hl.1 rfl (Nat.le_of_ble_eq_true rfl) dX6_sum_115 ⟨Nat.zero_le _, Nat.zero_le _⟩ (fun r_11 S_11 H locs hp_11 hw => ?_)
        have e9 := hp_11.1.symm
        subst e9
        have e9 := hp_11.2.symm
        subst e9
        exact ct_lret (S := sI S 0 0 (nI 0)) (v := mshs (sI S 0 0 (nI 0)) b9 (4 - 3) true 6) hx hb hr hlocks hK hw (⟨by rw [if_pos hG, ec_b9]; rfl, by rw [mthr, if_pos hG]⟩) dX6_sum_118
      by_cases c_12 : wh = nI 5
      · skip
        subst c_12
        refine lv_tableIn (tgt := 119) hx hb dX6_sum_45 (by decide) (by decide) rfl (by decide) ?_
        refine lv_aload_n hx hb dX6_sum_119 rfl (lv_at hl 1 rfl) ?_
        refine lv_iload_n hx hb dX6_sum_120 rfl (lv_at hl 2 rfl) ?_
        refine lv_iload_n hx hb dX6_sum_121 rfl (lv_at hl 3 rfl) ?_
        refine lv_iconst (v := nI 5) hx hb dX6_sum_122 (by decide) ?_
        refine lv_isub hx hb dX6_sum_123 ?_
        refine tp_i (pk_sub (a := 5) (b := 5) (by omega)) ?_
        refine lv_iconst (v := nI 0) hx hb dX6_sum_124 (by decide) ?_
        refine wo_vL (As := [.int (nI b9), .int (nI (5 - 5)), .int (nI 0)]) (rest := []) (kX6_inRows l dC dI ca ad (sI S 0 0 (nI 0)) b9 (5 - 5) false nr (by first | assumption | omega) hmi.2.2) ⟨hx, hb, hml, hown, hts⟩ (cwV 3 hts (wa_gV wd_757 wd_759 ws_24 wd_8 wd_760) rfl rfl rfl (by decide +kernel) ⟨Nat.le_of_ble_eq_true rfl, Nat.le_of_ble_eq_true rfl⟩) hK hw hA 0 rfl rfl rfl rfl hl.1 rfl (Nat.le_of_ble_eq_true rfl) dX6_sum_125 ⟨Nat.zero_le _, Nat.zero_le _⟩ (fun r_13 S_13 H locs hp_13 hw => ?_)
        have e9 := hp_13.1.symm
        subst e9
        have e9 := hp_13.2.symm
        subst e9
        exact ct_lret (S := sI S 0 0 (nI 0)) (v := minr (sI S 0 0 (nI 0)) b9 (5 - 5) false nr) hx hb hr hlocks hK hw (⟨by rw [if_pos hG, ec_b9]; rfl, by rw [mthr, if_pos hG]⟩) dX6_sum_128
      by_cases c_14 : wh = nI 6
      · skip
        subst c_14
        refine lv_tableIn (tgt := 119) hx hb dX6_sum_45 (by decide) (by decide) rfl (by decide) ?_
        refine lv_aload_n hx hb dX6_sum_119 rfl (lv_at hl 1 rfl) ?_
        refine lv_iload_n hx hb dX6_sum_120 rfl (lv_at hl 2 rfl) ?_
        refine lv_iload_n hx hb dX6_sum_121 rfl (lv_at hl 3 rfl) ?_
        refine lv_iconst (v := nI 5) hx hb dX6_sum_122 (by decide) ?_
        refine lv_isub hx hb dX6_sum_123 ?_
        refine tp_i (pk_sub (a := 6) (b := 5) (by omega)) ?_
        refine lv_iconst (v := nI 0) hx hb dX6_sum_124 (by decide) ?_
        refine wo_vL (As := [.int (nI b9), .int (nI (6 - 5)), .int (nI 0)]) (rest := []) (kX6_inRows l dC dI ca ad (sI S 0 0 (nI 0)) b9 (6 - 5) false nr (by first | assumption | omega) hmi.2.2) ⟨hx, hb, hml, hown, hts⟩ (cwV 3 hts (wa_gV wd_757 wd_759 ws_24 wd_8 wd_760) rfl rfl rfl (by decide +kernel) ⟨Nat.le_of_ble_eq_true rfl, Nat.le_of_ble_eq_true rfl⟩) hK hw hA 0 rfl rfl rfl rfl hl.1 rfl (Nat.le_of_ble_eq_true rfl) dX6_sum_125 ⟨Nat.zero_le _, Nat.zero_le _⟩ (fun r_15 S_15 H locs hp_15 hw => ?_)
        have e9 := hp_15.1.symm
        subst e9
        have e9 := hp_15.2.symm
        subst e9
        exact ct_lret (S := sI S 0 0 (nI 0)) (v := minr (sI S 0 0 (nI 0)) b9 (6 - 5) false nr) hx hb hr hlocks hK hw (⟨by rw [if_pos hG, ec_b9]; rfl, by rw [mthr, if_pos hG]⟩) dX6_sum_128
      refine lv_tableOut (tgt := 129) hx hb dX6_sum_45 (by have q0 := lv_neT c_5 (a := 0) (by decide); have q1 := lv_neT c_6 (a := 1) (by decide); have q2 := lv_neT c_7 (a := 2) (by decide); have q3 := lv_neT c_8 (a := 3) (by decide); have q4 := lv_neT c_10 (a := 4) (by decide); have q5 := lv_neT c_12 (a := 5) (by decide); have q6 := lv_neT c_14 (a := 6) (by decide); omega) (by decide) ?_
      rcases sum78 hwh c_5 c_6 c_7 c_8 c_10 c_12 c_14 with e7 | e7
      · skip
        subst e7
        rw [show sdm (nI 7) = nI 0 from by decide] at hl
        refine lv_aload_n hx hb dX6_sum_129 rfl (lv_at hl 1 rfl) ?_
        refine lv_iload_n hx hb dX6_sum_130 rfl (lv_at hl 2 rfl) ?_
        refine lv_iload_n hx hb dX6_sum_131 rfl (lv_at hl 0 rfl) ?_
        refine lv_iconst (v := nI 0) hx hb dX6_sum_132 (by decide) ?_
        refine wo_vL (As := [.int (nI b9), .int (nI 0), .int (nI 0)]) (rest := []) (kX6_shares l dC dI ca ad (sI S 0 0 (nI 0)) b9 0 false (by first | assumption | omega) (by first | assumption | omega)) ⟨hx, hb, hml, hown, hts⟩ (cwV 3 hts (wa_gV wd_753 wd_755 ws_23 wd_8 wd_756) rfl rfl rfl (by decide +kernel) ⟨Nat.le_of_ble_eq_true rfl, Nat.le_of_ble_eq_true rfl⟩) hK hw hA 0 rfl rfl rfl rfl hl.1 rfl (Nat.le_of_ble_eq_true rfl) dX6_sum_133 ⟨Nat.zero_le _, Nat.zero_le _⟩ (fun r_16 S_16 H locs hp_16 hw => ?_)
        have e9 := hp_16.1.symm
        subst e9
        have e9 := hp_16.2.symm
        subst e9
        refine lv_aload_n hx hb dX6_sum_136 rfl (lv_at hl 1 rfl) ?_
        refine lv_iload_n hx hb dX6_sum_137 rfl (lv_at hl 2 rfl) ?_
        refine lv_iload_n hx hb dX6_sum_138 rfl (lv_at hl 0 rfl) ?_
        refine lv_iconst (v := nI 1) hx hb dX6_sum_139 (by decide) ?_
        refine wo_vL (As := [.int (nI b9), .int (nI 0), .int (nI 1)]) (rest := [.long (mshs (sI S 0 0 (nI 0)) b9 0 false 6)]) (kX6_inRows l dC dI ca ad (sI S 0 0 (nI 0)) b9 0 true nr (by first | assumption | omega) hmi.2.2) ⟨hx, hb, hml, hown, hts⟩ (cwV 3 hts (wa_gV wd_757 wd_759 ws_24 wd_8 wd_760) rfl rfl rfl (by decide +kernel) ⟨Nat.le_of_ble_eq_true rfl, Nat.le_of_ble_eq_true rfl⟩) hK hw hA 0 rfl rfl rfl rfl hl.1 rfl (Nat.le_of_ble_eq_true rfl) dX6_sum_140 ⟨Nat.zero_le _, Nat.zero_le _⟩ (fun r_17 S_17 H locs hp_17 hw => ?_)
        have e9 := hp_17.1.symm
        subst e9
        have e9 := hp_17.2.symm
        subst e9
        refine lv_ladd hx hb dX6_sum_143 ?_
        exact ct_lret (S := sI S 0 0 (nI 0)) (v := (mshs (sI S 0 0 (nI 0)) b9 0 false 6) + (minr (sI S 0 0 (nI 0)) b9 0 true nr)) hx hb hr hlocks hK hw (⟨by rw [if_pos hG, ec_b9]; rfl, by rw [mthr, if_pos hG]⟩) dX6_sum_144
      · skip
        subst e7
        rw [show sdm (nI 8) = nI 1 from by decide] at hl
        refine lv_aload_n hx hb dX6_sum_129 rfl (lv_at hl 1 rfl) ?_
        refine lv_iload_n hx hb dX6_sum_130 rfl (lv_at hl 2 rfl) ?_
        refine lv_iload_n hx hb dX6_sum_131 rfl (lv_at hl 0 rfl) ?_
        refine lv_iconst (v := nI 0) hx hb dX6_sum_132 (by decide) ?_
        refine wo_vL (As := [.int (nI b9), .int (nI 1), .int (nI 0)]) (rest := []) (kX6_shares l dC dI ca ad (sI S 0 0 (nI 0)) b9 1 false (by first | assumption | omega) (by first | assumption | omega)) ⟨hx, hb, hml, hown, hts⟩ (cwV 3 hts (wa_gV wd_753 wd_755 ws_23 wd_8 wd_756) rfl rfl rfl (by decide +kernel) ⟨Nat.le_of_ble_eq_true rfl, Nat.le_of_ble_eq_true rfl⟩) hK hw hA 0 rfl rfl rfl rfl hl.1 rfl (Nat.le_of_ble_eq_true rfl) dX6_sum_133 ⟨Nat.zero_le _, Nat.zero_le _⟩ (fun r_18 S_18 H locs hp_18 hw => ?_)
        have e9 := hp_18.1.symm
        subst e9
        have e9 := hp_18.2.symm
        subst e9
        refine lv_aload_n hx hb dX6_sum_136 rfl (lv_at hl 1 rfl) ?_
        refine lv_iload_n hx hb dX6_sum_137 rfl (lv_at hl 2 rfl) ?_
        refine lv_iload_n hx hb dX6_sum_138 rfl (lv_at hl 0 rfl) ?_
        refine lv_iconst (v := nI 1) hx hb dX6_sum_139 (by decide) ?_
        refine wo_vL (As := [.int (nI b9), .int (nI 1), .int (nI 1)]) (rest := [.long (mshs (sI S 0 0 (nI 0)) b9 1 false 6)]) (kX6_inRows l dC dI ca ad (sI S 0 0 (nI 0)) b9 1 true nr (by first | assumption | omega) hmi.2.2) ⟨hx, hb, hml, hown, hts⟩ (cwV 3 hts (wa_gV wd_757 wd_759 ws_24 wd_8 wd_760) rfl rfl rfl (by decide +kernel) ⟨Nat.le_of_ble_eq_true rfl, Nat.le_of_ble_eq_true rfl⟩) hK hw hA 0 rfl rfl rfl rfl hl.1 rfl (Nat.le_of_ble_eq_true rfl) dX6_sum_140 ⟨Nat.zero_le _, Nat.zero_le _⟩ (fun r_19 S_19 H locs hp_19 hw => ?_)
        have e9 := hp_19.1.symm
        subst e9
        have e9 := hp_19.2.symm
        subst e9
        refine lv_ladd hx hb dX6_sum_143 ?_
        exact ct_lret (S := sI S 0 0 (nI 0)) (v := (mshs (sI S 0 0 (nI 0)) b9 1 false 6) + (minr (sI S 0 0 (nI 0)) b9 1 true nr)) hx hb hr hlocks hK hw (⟨by rw [if_pos hG, ec_b9]; rfl, by rw [mthr, if_pos hG]⟩) dX6_sum_144
