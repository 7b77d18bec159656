theorem dX6_weigh_0 : decode cX6_weigh 0 = .ok (.aload_n 0, 1) := by decide +kernel
theorem dX6_weigh_1 : decode cX6_weigh 1 = .ok (.iconst 0, 1) := by decide +kernel
theorem dX6_weigh_2 : decode cX6_weigh 2 = .ok (.putfield 78, 3) := by decide +kernel
theorem dX6_weigh_5 : decode cX6_weigh 5 = .ok (.aload_n 0, 1) := by decide +kernel
theorem dX6_weigh_6 : decode cX6_weigh 6 = .ok (.iload_n 1, 1) := by decide +kernel
theorem dX6_weigh_7 : decode cX6_weigh 7 = .ok (.invokevirtual 91, 3) := by decide +kernel
theorem dX6_weigh_10 : decode cX6_weigh 10 = .ok (.ifCond .eq 14, 3) := by decide +kernel
theorem dX6_weigh_13 : decode cX6_weigh 13 = .ok (.lload_n 2, 1) := by decide +kernel
theorem dX6_weigh_14 : decode cX6_weigh 14 = .ok (.lconst 0, 1) := by decide +kernel
theorem dX6_weigh_15 : decode cX6_weigh 15 = .ok (.ldc2_w 95, 3) := by decide +kernel
theorem dX6_weigh_18 : decode cX6_weigh 18 = .ok (.invokestatic 84, 3) := by decide +kernel
theorem dX6_weigh_21 : decode cX6_weigh 21 = .ok (.ifCond .ne 5, 3) := by decide +kernel
theorem dX6_weigh_24 : decode cX6_weigh 24 = .ok (.iconst 0, 1) := by decide +kernel
theorem dX6_weigh_25 : decode cX6_weigh 25 = .ok (.ireturn, 1) := by decide +kernel
theorem dX6_weigh_26 : decode cX6_weigh 26 = .ok (.aload_n 0, 1) := by decide +kernel
theorem dX6_weigh_27 : decode cX6_weigh 27 = .ok (.getfield 22, 3) := by decide +kernel
theorem dX6_weigh_30 : decode cX6_weigh 30 = .ok (.iload_n 1, 1) := by decide +kernel
theorem dX6_weigh_31 : decode cX6_weigh 31 = .ok (.lload_n 2, 1) := by decide +kernel
theorem dX6_weigh_32 : decode cX6_weigh 32 = .ok (.lastore, 1) := by decide +kernel
theorem dX6_weigh_33 : decode cX6_weigh 33 = .ok (.iconst 1, 1) := by decide +kernel
theorem dX6_weigh_34 : decode cX6_weigh 34 = .ok (.ireturn, 1) := by decide +kernel

theorem dX6_isTooGreat_0 : decode cX6_isTooGreat 0 = .ok (.lload_n 2, 1) := by decide +kernel
theorem dX6_isTooGreat_1 : decode cX6_isTooGreat 1 = .ok (.lload_n 0, 1) := by decide +kernel
theorem dX6_isTooGreat_2 : decode cX6_isTooGreat 2 = .ok (.lsub, 1) := by decide +kernel
theorem dX6_isTooGreat_3 : decode cX6_isTooGreat 3 = .ok (.lconst 0, 1) := by decide +kernel
theorem dX6_isTooGreat_4 : decode cX6_isTooGreat 4 = .ok (.lcmp, 1) := by decide +kernel
theorem dX6_isTooGreat_5 : decode cX6_isTooGreat 5 = .ok (.ifCond .lt 13, 3) := by decide +kernel
theorem dX6_isTooGreat_8 : decode cX6_isTooGreat 8 = .ok (.lload_n 2, 1) := by decide +kernel
theorem dX6_isTooGreat_9 : decode cX6_isTooGreat 9 = .ok (.lload_n 0, 1) := by decide +kernel
theorem dX6_isTooGreat_10 : decode cX6_isTooGreat 10 = .ok (.lsub, 1) := by decide +kernel
theorem dX6_isTooGreat_11 : decode cX6_isTooGreat 11 = .ok (.ldc2_w 97, 3) := by decide +kernel
theorem dX6_isTooGreat_14 : decode cX6_isTooGreat 14 = .ok (.lcmp, 1) := by decide +kernel
theorem dX6_isTooGreat_15 : decode cX6_isTooGreat 15 = .ok (.ifCond .le 7, 3) := by decide +kernel
theorem dX6_isTooGreat_18 : decode cX6_isTooGreat 18 = .ok (.iconst 1, 1) := by decide +kernel
theorem dX6_isTooGreat_19 : decode cX6_isTooGreat 19 = .ok (.goto 4, 3) := by decide +kernel
theorem dX6_isTooGreat_22 : decode cX6_isTooGreat 22 = .ok (.iconst 0, 1) := by decide +kernel
theorem dX6_isTooGreat_23 : decode cX6_isTooGreat 23 = .ok (.ireturn, 1) := by decide +kernel

theorem dX6_patient_0 : decode cX6_patient 0 = .ok (.aload_n 0, 1) := by decide +kernel
theorem dX6_patient_1 : decode cX6_patient 1 = .ok (.iconst 0, 1) := by decide +kernel
theorem dX6_patient_2 : decode cX6_patient 2 = .ok (.putfield 78, 3) := by decide +kernel
theorem dX6_patient_5 : decode cX6_patient 5 = .ok (.aload_n 0, 1) := by decide +kernel
theorem dX6_patient_6 : decode cX6_patient 6 = .ok (.iload_n 1, 1) := by decide +kernel
theorem dX6_patient_7 : decode cX6_patient 7 = .ok (.invokevirtual 91, 3) := by decide +kernel
theorem dX6_patient_10 : decode cX6_patient 10 = .ok (.ifCond .eq 13, 3) := by decide +kernel
theorem dX6_patient_13 : decode cX6_patient 13 = .ok (.aload_n 0, 1) := by decide +kernel
theorem dX6_patient_14 : decode cX6_patient 14 = .ok (.getfield 29, 3) := by decide +kernel
theorem dX6_patient_17 : decode cX6_patient 17 = .ok (.iload_n 1, 1) := by decide +kernel
theorem dX6_patient_18 : decode cX6_patient 18 = .ok (.baload, 1) := by decide +kernel
theorem dX6_patient_19 : decode cX6_patient 19 = .ok (.iload_n 2, 1) := by decide +kernel
theorem dX6_patient_20 : decode cX6_patient 20 = .ok (.if_icmp .ne 5, 3) := by decide +kernel
theorem dX6_patient_23 : decode cX6_patient 23 = .ok (.iconst 0, 1) := by decide +kernel
theorem dX6_patient_24 : decode cX6_patient 24 = .ok (.ireturn, 1) := by decide +kernel
theorem dX6_patient_25 : decode cX6_patient 25 = .ok (.aload_n 0, 1) := by decide +kernel
theorem dX6_patient_26 : decode cX6_patient 26 = .ok (.getfield 29, 3) := by decide +kernel
theorem dX6_patient_29 : decode cX6_patient 29 = .ok (.iload_n 1, 1) := by decide +kernel
theorem dX6_patient_30 : decode cX6_patient 30 = .ok (.iload_n 2, 1) := by decide +kernel
theorem dX6_patient_31 : decode cX6_patient 31 = .ok (.bastore, 1) := by decide +kernel
theorem dX6_patient_32 : decode cX6_patient 32 = .ok (.iconst 1, 1) := by decide +kernel
theorem dX6_patient_33 : decode cX6_patient 33 = .ok (.ireturn, 1) := by decide +kernel

theorem dX6_take_0 : decode cX6_take 0 = .ok (.aload_n 0, 1) := by decide +kernel
theorem dX6_take_1 : decode cX6_take 1 = .ok (.iconst 0, 1) := by decide +kernel
theorem dX6_take_2 : decode cX6_take 2 = .ok (.putfield 78, 3) := by decide +kernel
theorem dX6_take_5 : decode cX6_take 5 = .ok (.aload_n 0, 1) := by decide +kernel
theorem dX6_take_6 : decode cX6_take 6 = .ok (.iload_n 1, 1) := by decide +kernel
theorem dX6_take_7 : decode cX6_take 7 = .ok (.invokevirtual 118, 3) := by decide +kernel
theorem dX6_take_10 : decode cX6_take 10 = .ok (.ifCond .eq 30, 3) := by decide +kernel
theorem dX6_take_13 : decode cX6_take 13 = .ok (.aload_n 0, 1) := by decide +kernel
theorem dX6_take_14 : decode cX6_take 14 = .ok (.iload_n 2, 1) := by decide +kernel
theorem dX6_take_15 : decode cX6_take 15 = .ok (.invokevirtual 91, 3) := by decide +kernel
theorem dX6_take_18 : decode cX6_take 18 = .ok (.ifCond .eq 22, 3) := by decide +kernel
theorem dX6_take_21 : decode cX6_take 21 = .ok (.lload_n 3, 1) := by decide +kernel
theorem dX6_take_22 : decode cX6_take 22 = .ok (.lconst 0, 1) := by decide +kernel
theorem dX6_take_23 : decode cX6_take 23 = .ok (.lcmp, 1) := by decide +kernel
theorem dX6_take_24 : decode cX6_take 24 = .ok (.ifCond .eq 16, 3) := by decide +kernel
theorem dX6_take_27 : decode cX6_take 27 = .ok (.lload_n 3, 1) := by decide +kernel
theorem dX6_take_28 : decode cX6_take 28 = .ok (.ldc2_w 121, 3) := by decide +kernel
theorem dX6_take_31 : decode cX6_take 31 = .ok (.ldc2_w 97, 3) := by decide +kernel
theorem dX6_take_34 : decode cX6_take 34 = .ok (.invokestatic 84, 3) := by decide +kernel
theorem dX6_take_37 : decode cX6_take 37 = .ok (.ifCond .ne 5, 3) := by decide +kernel
theorem dX6_take_40 : decode cX6_take 40 = .ok (.iconst (-1), 1) := by decide +kernel
theorem dX6_take_41 : decode cX6_take 41 = .ok (.ireturn, 1) := by decide +kernel
theorem dX6_take_42 : decode cX6_take 42 = .ok (.aload_n 0, 1) := by decide +kernel
theorem dX6_take_43 : decode cX6_take 43 = .ok (.iload_n 1, 1) := by decide +kernel
theorem dX6_take_44 : decode cX6_take 44 = .ok (.iload_n 2, 1) := by decide +kernel
theorem dX6_take_45 : decode cX6_take 45 = .ok (.lload_n 3, 1) := by decide +kernel
theorem dX6_take_46 : decode cX6_take 46 = .ok (.invokevirtual 123, 3) := by decide +kernel
theorem dX6_take_49 : decode cX6_take 49 = .ok (.ifCond .eq 5, 3) := by decide +kernel
theorem dX6_take_52 : decode cX6_take 52 = .ok (.iconst 1, 1) := by decide +kernel
theorem dX6_take_53 : decode cX6_take 53 = .ok (.ireturn, 1) := by decide +kernel
theorem dX6_take_54 : decode cX6_take 54 = .ok (.aload_n 0, 1) := by decide +kernel
theorem dX6_take_55 : decode cX6_take 55 = .ok (.getfield 29, 3) := by decide +kernel
theorem dX6_take_58 : decode cX6_take 58 = .ok (.iload_n 2, 1) := by decide +kernel
theorem dX6_take_59 : decode cX6_take 59 = .ok (.baload, 1) := by decide +kernel
theorem dX6_take_60 : decode cX6_take 60 = .ok (.ifCond .eq 14, 3) := by decide +kernel
theorem dX6_take_63 : decode cX6_take 63 = .ok (.aload_n 0, 1) := by decide +kernel
theorem dX6_take_64 : decode cX6_take 64 = .ok (.getfield 36, 3) := by decide +kernel
theorem dX6_take_67 : decode cX6_take 67 = .ok (.iload_n 2, 1) := by decide +kernel
theorem dX6_take_68 : decode cX6_take 68 = .ok (.iaload, 1) := by decide +kernel
theorem dX6_take_69 : decode cX6_take 69 = .ok (.bipush 8, 2) := by decide +kernel
theorem dX6_take_71 : decode cX6_take 71 = .ok (.if_icmp .ne 15, 3) := by decide +kernel
theorem dX6_take_74 : decode cX6_take 74 = .ok (.aload_n 0, 1) := by decide +kernel
theorem dX6_take_75 : decode cX6_take 75 = .ok (.dup, 1) := by decide +kernel
theorem dX6_take_76 : decode cX6_take 76 = .ok (.getfield 127, 3) := by decide +kernel
theorem dX6_take_79 : decode cX6_take 79 = .ok (.iconst 1, 1) := by decide +kernel
theorem dX6_take_80 : decode cX6_take 80 = .ok (.iadd, 1) := by decide +kernel
theorem dX6_take_81 : decode cX6_take 81 = .ok (.putfield 127, 3) := by decide +kernel
theorem dX6_take_84 : decode cX6_take 84 = .ok (.iconst 0, 1) := by decide +kernel
theorem dX6_take_85 : decode cX6_take 85 = .ok (.ireturn, 1) := by decide +kernel
theorem dX6_take_86 : decode cX6_take 86 = .ok (.aload_n 0, 1) := by decide +kernel
theorem dX6_take_87 : decode cX6_take 87 = .ok (.getfield 39, 3) := by decide +kernel
theorem dX6_take_90 : decode cX6_take 90 = .ok (.bipush 8, 2) := by decide +kernel
theorem dX6_take_92 : decode cX6_take 92 = .ok (.iload_n 2, 1) := by decide +kernel
theorem dX6_take_93 : decode cX6_take 93 = .ok (.imul, 1) := by decide +kernel
theorem dX6_take_94 : decode cX6_take 94 = .ok (.aload_n 0, 1) := by decide +kernel
theorem dX6_take_95 : decode cX6_take 95 = .ok (.getfield 36, 3) := by decide +kernel
theorem dX6_take_98 : decode cX6_take 98 = .ok (.iload_n 2, 1) := by decide +kernel
theorem dX6_take_99 : decode cX6_take 99 = .ok (.iaload, 1) := by decide +kernel
theorem dX6_take_100 : decode cX6_take 100 = .ok (.iadd, 1) := by decide +kernel
theorem dX6_take_101 : decode cX6_take 101 = .ok (.iload_n 1, 1) := by decide +kernel
theorem dX6_take_102 : decode cX6_take 102 = .ok (.iastore, 1) := by decide +kernel
theorem dX6_take_103 : decode cX6_take 103 = .ok (.aload_n 0, 1) := by decide +kernel
theorem dX6_take_104 : decode cX6_take 104 = .ok (.getfield 42, 3) := by decide +kernel
theorem dX6_take_107 : decode cX6_take 107 = .ok (.bipush 8, 2) := by decide +kernel
theorem dX6_take_109 : decode cX6_take 109 = .ok (.iload_n 2, 1) := by decide +kernel
theorem dX6_take_110 : decode cX6_take 110 = .ok (.imul, 1) := by decide +kernel
theorem dX6_take_111 : decode cX6_take 111 = .ok (.aload_n 0, 1) := by decide +kernel
theorem dX6_take_112 : decode cX6_take 112 = .ok (.getfield 36, 3) := by decide +kernel
theorem dX6_take_115 : decode cX6_take 115 = .ok (.iload_n 2, 1) := by decide +kernel
theorem dX6_take_116 : decode cX6_take 116 = .ok (.iaload, 1) := by decide +kernel
theorem dX6_take_117 : decode cX6_take 117 = .ok (.iadd, 1) := by decide +kernel
theorem dX6_take_118 : decode cX6_take 118 = .ok (.lload_n 3, 1) := by decide +kernel
theorem dX6_take_119 : decode cX6_take 119 = .ok (.lastore, 1) := by decide +kernel
theorem dX6_take_120 : decode cX6_take 120 = .ok (.aload_n 0, 1) := by decide +kernel
theorem dX6_take_121 : decode cX6_take 121 = .ok (.getfield 36, 3) := by decide +kernel
theorem dX6_take_124 : decode cX6_take 124 = .ok (.iload_n 2, 1) := by decide +kernel
theorem dX6_take_125 : decode cX6_take 125 = .ok (.dup2, 1) := by decide +kernel
theorem dX6_take_126 : decode cX6_take 126 = .ok (.iaload, 1) := by decide +kernel
theorem dX6_take_127 : decode cX6_take 127 = .ok (.iconst 1, 1) := by decide +kernel
theorem dX6_take_128 : decode cX6_take 128 = .ok (.iadd, 1) := by decide +kernel
theorem dX6_take_129 : decode cX6_take 129 = .ok (.iastore, 1) := by decide +kernel
theorem dX6_take_130 : decode cX6_take 130 = .ok (.iconst 2, 1) := by decide +kernel
theorem dX6_take_131 : decode cX6_take 131 = .ok (.ireturn, 1) := by decide +kernel

set_option maxHeartbeats 4000000 in
set_option maxRecDepth 100000 in
theorem kX6_weigh (l : Launch) (dC : Nat → ClassId) (dI : Nat → Nat → Nat) (ca : Nat → ClassId) (ad : Nat → Nat) (S : sSt) (pp : Int32) (ww : Int64) : ct_I l yX6_weigh (Cond.code yX6_weigh cX6_weigh 4 (some .boolean) :: wa_T) ({ frames := 2, cells := 0, slots := 0, locals := 46 } : Room) (dC, dI) vwCl (tyl ca) (wq ca ad) S [.ref (ad 0), .int pp, .long ww] (fun r S2 => r = bI (mwgOk (mt0 S) pp ww) ∧ S2 = (if mwgOk (mt0 S) pp ww = true then sL (mt0 S) 5 pp.toNatClampNeg ww else (mt0 S))) := by
  refine ct_ofI (by decide) (Nat.le_of_ble_eq_true rfl) ?_
  intro p e s m below meth c A ls hx hb hr hml hts hown hlocks hK hA hw hl
  have hl : lv_has ls 4 [(0, .ref (ad 0)), (1, .int pp), (2, .long ww)] := hl
  refine lv_aload_n hx hb dX6_weigh_0 rfl (lv_at hl 0 rfl) ?_
  refine lv_iconst (v := nI 0) hx hb dX6_weigh_1 (by decide) ?_
  refine wo_put (ty := .int) (v := .int (nI 0)) hx hb hts inX6 tyX6 tyX6_ok nmX6 hown hK hw 0 rfl rfl 0 (by decide) (hts _ wd_565) (fun _ h9 => h9) rfl (by decide +kernel) rfl rfl (Nat.le_of_ble_eq_true rfl) (sg_0 ca ad S (nI 0)) dX6_weigh_2 (fun H locs hw => ?_)
  have hw : wo_w (dC, dI) vwCl A s.heap (wq ca ad (mt0 S)) H locs := hw
  refine lv_aload_n hx hb dX6_weigh_5 rfl (lv_at hl 0 rfl) ?_
  refine lv_iload_n hx hb dX6_weigh_6 rfl (lv_at hl 1 rfl) ?_
  refine wo_vI (As := [.int pp]) (rest := []) (kX6_isWell l dC dI ca ad (mt0 S) pp) ⟨hx, hb, hml, hown, hts⟩ (cwV 1 hts (wa_gV wd_655 wd_657 ws_13 wd_8 wd_658) rfl rfl rfl (by decide +kernel) ⟨Nat.le_of_ble_eq_true rfl, Nat.le_of_ble_eq_true rfl⟩) hK hw hA 0 rfl rfl rfl rfl hl.1 rfl (Nat.le_of_ble_eq_true rfl) dX6_weigh_7 ⟨Nat.zero_le _, Nat.zero_le _⟩ (fun r_1 S_1 H locs hp_1 hw => ?_)
  have e9 := hp_1.1.symm
  subst e9
  have e9 := hp_1.2.symm
  subst e9
  refine lv_if_eq (tgt := 24) hx hb dX6_weigh_10 (by decide) (fun c_2 => ?_) (fun c_2 => ?_)
  · skip
    have c_2 : mwl (mt0 S) pp = false := nb_0 c_2
    refine lv_iconst (v := nI 0) hx hb dX6_weigh_24 (by decide) ?_
    exact ct_zret (S := mt0 S) (v := nI 0) hx hb hr hlocks hK (by first | decide | exact nb_z _) hw (⟨by simp only [bI, mwgOk, c_2, decide_true, decide_false, Bool.not_true, Bool.not_false, Bool.true_and, Bool.and_true, Bool.false_and, Bool.and_false, Bool.or_true, Bool.true_or, Bool.or_false, Bool.false_or, Bool.false_eq_true, Bool.true_eq_false, if_true, if_false, ↓reduceIte], by simp only [mwgOk, c_2, decide_true, decide_false, Bool.not_true, Bool.not_false, Bool.true_and, Bool.and_true, Bool.false_and, Bool.and_false, Bool.or_true, Bool.true_or, Bool.or_false, Bool.false_or, Bool.false_eq_true, Bool.true_eq_false, if_true, if_false, ↓reduceIte]⟩) dX6_weigh_25
  · skip
    have c_2 : mwl (mt0 S) pp = true := nb_1 c_2
    obtain ⟨p9, hp9, rfl⟩ := mwl_n c_2
    have ec_p9 := nI_clamp (n := p9) (by omega)
    refine lv_lload_n hx hb dX6_weigh_13 rfl (lv_at hl 2 rfl) ?_
    refine lv_lconst (v := 0) hx hb dX6_weigh_14 (by decide) ?_
    refine lv_ldc2 hx hb hown (hts _ wd_663) dX6_weigh_15 ?_
    refine wo_sI (As := [.long ww, .long 0, .long 1000000]) (rest := []) (kX6_within l dC dI ca ad (mt0 S) ww 0 1000000) ⟨hx, hb, hml, hown, hts⟩ (va_cwS 3 hts (wa_gS wd_660 wd_661 wd_8 wd_662) rfl rfl rfl (by decide +kernel) ⟨Nat.le_of_ble_eq_true rfl, Nat.le_of_ble_eq_true rfl⟩) hK hw hA rfl hl.1 rfl (Nat.le_of_ble_eq_true rfl) dX6_weigh_18 ⟨Nat.zero_le _, Nat.zero_le _⟩ (fun r_3 S_3 H locs hp_3 hw => ?_)
    have e9 := hp_3.1.symm
    subst e9
    have e9 := hp_3.2.symm
    subst e9
    refine lv_if_ne (tgt := 26) hx hb dX6_weigh_21 (by decide) (fun c_4 => ?_) (fun c_4 => ?_)
    · skip
      have c_4 : wth ww 0 1000000 = true := nb_1 c_4
      refine lv_aload_n hx hb dX6_weigh_26 rfl (lv_at hl 0 rfl) ?_
      refine wo_get hx hb hts inX6 hown hK hw 0 rfl rfl 6 (by decide) (hts _ wd_571) (fun _ h9 => h9) rfl dX6_weigh_27 ?_
      refine lv_iload_n hx hb dX6_weigh_30 rfl (lv_at hl 1 rfl) ?_
      refine lv_lload_n hx hb dX6_weigh_31 rfl (lv_at hl 2 rfl) ?_
      refine wo_last hx hb hK hw 5 1 rfl rfl p9 rfl (by first | assumption | omega) (by decide) (sm_5 ca ad (mt0 S) p9 ww) dX6_weigh_32 (fun H locs hw => ?_)
      refine lv_iconst (v := nI 1) hx hb dX6_weigh_33 (by decide) ?_
      exact ct_zret (S := sL (mt0 S) 5 p9 ww) (v := nI 1) hx hb hr hlocks hK (by first | decide | exact nb_z _) hw (⟨by simp only [bI, mwgOk, c_2, ec_p9, c_4, decide_true, decide_false, Bool.not_true, Bool.not_false, Bool.true_and, Bool.and_true, Bool.false_and, Bool.and_false, Bool.or_true, Bool.true_or, Bool.or_false, Bool.false_or, Bool.false_eq_true, Bool.true_eq_false, if_true, if_false, ↓reduceIte], by simp only [mwgOk, c_2, ec_p9, c_4, decide_true, decide_false, Bool.not_true, Bool.not_false, Bool.true_and, Bool.and_true, Bool.false_and, Bool.and_false, Bool.or_true, Bool.true_or, Bool.or_false, Bool.false_or, Bool.false_eq_true, Bool.true_eq_false, if_true, if_false, ↓reduceIte]⟩) dX6_weigh_34
    · skip
      have c_4 : wth ww 0 1000000 = false := nb_0 c_4
      refine lv_iconst (v := nI 0) hx hb dX6_weigh_24 (by decide) ?_
      exact ct_zret (S := mt0 S) (v := nI 0) hx hb hr hlocks hK (by first | decide | exact nb_z _) hw (⟨by simp only [bI, mwgOk, c_2, ec_p9, c_4, decide_true, decide_false, Bool.not_true, Bool.not_false, Bool.true_and, Bool.and_true, Bool.false_and, Bool.and_false, Bool.or_true, Bool.true_or, Bool.or_false, Bool.false_or, Bool.false_eq_true, Bool.true_eq_false, if_true, if_false, ↓reduceIte], by simp only [mwgOk, c_2, ec_p9, c_4, decide_true, decide_false, Bool.not_true, Bool.not_false, Bool.true_and, Bool.and_true, Bool.false_and, Bool.and_false, Bool.or_true, Bool.true_or, Bool.or_false, Bool.false_or, Bool.false_eq_true, Bool.true_eq_false, if_true, if_false, ↓reduceIte]⟩) dX6_weigh_25

set_option maxHeartbeats 4000000 in
set_option maxRecDepth 100000 in
theorem kX6_isTooGreat (l : Launch) (dC : Nat → ClassId) (dI : Nat → Nat → Nat) (ca : Nat → ClassId) (ad : Nat → Nat) (S : sSt) (lo : Int64) (hh : Int64) : ct_I l yX6_isTooGreat (Cond.code yX6_isTooGreat cX6_isTooGreat 4 (some .boolean) :: wa_T) ({ frames := 0, cells := 0, slots := 0, locals := 0 } : Room) (dC, dI) vwCl (tyl ca) (wq ca ad) S [.long lo, .long hh] (fun r S2 => r = bI (mtg lo hh) ∧ S2 = S) := by
  refine ct_ofI (by decide) (Nat.le_of_ble_eq_true rfl) ?_
  intro p e s m below meth c A ls hx hb hr hml hts hown hlocks hK hA hw hl
  have hl : lv_has ls 4 [(0, .long lo), (2, .long hh)] := hl
  refine lv_lload_n hx hb dX6_isTooGreat_0 rfl (lv_at hl 1 rfl) ?_
  refine lv_lload_n hx hb dX6_isTooGreat_1 rfl (lv_at hl 0 rfl) ?_
  refine lv_lsub hx hb dX6_isTooGreat_2 ?_
  refine lv_lconst (v := 0) hx hb dX6_isTooGreat_3 (by decide) ?_
  refine lc_lt (tgt := 18) hx hb dX6_isTooGreat_4 dX6_isTooGreat_5 (by decide) (fun c_1 => ?_) (fun c_1 => ?_)
  · skip
    refine lv_iconst (v := nI 1) hx hb dX6_isTooGreat_18 (by decide) ?_
    refine lv_goto (tgt := 23) hx hb dX6_isTooGreat_19 (by decide) ?_
    exact ct_zret (S := S) (v := nI 1) hx hb hr hlocks hK (by first | decide | exact nb_z _) hw (⟨by simp only [bI, mtg, c_1, decide_true, decide_false, Bool.not_true, Bool.not_false, Bool.true_and, Bool.and_true, Bool.false_and, Bool.and_false, Bool.or_true, Bool.true_or, Bool.or_false, Bool.false_or, Bool.false_eq_true, Bool.true_eq_false, if_true, if_false, ↓reduceIte], rfl⟩) dX6_isTooGreat_23
  · skip
    refine lv_lload_n hx hb dX6_isTooGreat_8 rfl (lv_at hl 1 rfl) ?_
    refine lv_lload_n hx hb dX6_isTooGreat_9 rfl (lv_at hl 0 rfl) ?_
    refine lv_lsub hx hb dX6_isTooGreat_10 ?_
    refine lv_ldc2 hx hb hown (hts _ wd_671) dX6_isTooGreat_11 ?_
    refine lc_le (tgt := 22) hx hb dX6_isTooGreat_14 dX6_isTooGreat_15 (by decide) (fun c_2 => ?_) (fun c_2 => ?_)
    · skip
      refine lv_iconst (v := nI 0) hx hb dX6_isTooGreat_22 (by decide) ?_
      exact ct_zret (S := S) (v := nI 0) hx hb hr hlocks hK (by first | decide | exact nb_z _) hw (⟨by simp only [bI, mtg, c_1, c_2, decide_true, decide_false, Bool.not_true, Bool.not_false, Bool.true_and, Bool.and_true, Bool.false_and, Bool.and_false, Bool.or_true, Bool.true_or, Bool.or_false, Bool.false_or, Bool.false_eq_true, Bool.true_eq_false, if_true, if_false, ↓reduceIte], rfl⟩) dX6_isTooGreat_23
    · skip
      refine lv_iconst (v := nI 1) hx hb dX6_isTooGreat_18 (by decide) ?_
      refine lv_goto (tgt := 23) hx hb dX6_isTooGreat_19 (by decide) ?_
      exact ct_zret (S := S) (v := nI 1) hx hb hr hlocks hK (by first | decide | exact nb_z _) hw (⟨by simp only [bI, mtg, c_1, c_2, decide_true, decide_false, Bool.not_true, Bool.not_false, Bool.true_and, Bool.and_true, Bool.false_and, Bool.and_false, Bool.or_true, Bool.true_or, Bool.or_false, Bool.false_or, Bool.false_eq_true, Bool.true_eq_false, if_true, if_false, ↓reduceIte], rfl⟩) dX6_isTooGreat_23

set_option maxHeartbeats 4000000 in
set_option maxRecDepth 100000 in
theorem kX6_patient (l : Launch) (dC : Nat → ClassId) (dI : Nat → Nat → Nat) (ca : Nat → ClassId) (ad : Nat → Nat) (S : sSt) (pp : Int32) (b0 : Bool) : ct_I l yX6_patient (Cond.code yX6_patient cX6_patient 3 (some .boolean) :: wa_T) ({ frames := 2, cells := 0, slots := 0, locals := 46 } : Room) (dC, dI) vwCl (tyl ca) (wq ca ad) S [.ref (ad 0), .int pp, .int (bI b0)] (fun r S2 => r = bI (mptOk (mt0 S) pp b0) ∧ S2 = (if mptOk (mt0 S) pp b0 = true then sI (mt0 S) 7 pp.toNatClampNeg (bI b0) else (mt0 S))) := by
  refine ct_ofI (by decide) (Nat.le_of_ble_eq_true rfl) ?_
  intro p e s m below meth c A ls hx hb hr hml hts hown hlocks hK hA hw hl
  have hl : lv_has ls 3 [(0, .ref (ad 0)), (1, .int pp), (2, .int (bI b0))] := hl
  refine lv_aload_n hx hb dX6_patient_0 rfl (lv_at hl 0 rfl) ?_
  refine lv_iconst (v := nI 0) hx hb dX6_patient_1 (by decide) ?_
  refine wo_put (ty := .int) (v := .int (nI 0)) hx hb hts inX6 tyX6 tyX6_ok nmX6 hown hK hw 0 rfl rfl 0 (by decide) (hts _ wd_565) (fun _ h9 => h9) rfl (by decide +kernel) rfl rfl (Nat.le_of_ble_eq_true rfl) (sg_0 ca ad S (nI 0)) dX6_patient_2 (fun H locs hw => ?_)
  have hw : wo_w (dC, dI) vwCl A s.heap (wq ca ad (mt0 S)) H locs := hw
  refine lv_aload_n hx hb dX6_patient_5 rfl (lv_at hl 0 rfl) ?_
  refine lv_iload_n hx hb dX6_patient_6 rfl (lv_at hl 1 rfl) ?_
  refine wo_vI (As := [.int pp]) (rest := []) (kX6_isWell l dC dI ca ad (mt0 S) pp) ⟨hx, hb, hml, hown, hts⟩ (cwV 1 hts (wa_gV wd_655 wd_657 ws_13 wd_8 wd_658) rfl rfl rfl (by decide +kernel) ⟨Nat.le_of_ble_eq_true rfl, Nat.le_of_ble_eq_true rfl⟩) hK hw hA 0 rfl rfl rfl rfl hl.1 rfl (Nat.le_of_ble_eq_true rfl) dX6_patient_7 ⟨Nat.zero_le _, Nat.zero_le _⟩ (fun r_1 S_1 H locs hp_1 hw => ?_)
  have e9 := hp_1.1.symm
  subst e9
  have e9 := hp_1.2.symm
  subst e9
  refine lv_if_eq (tgt := 23) hx hb dX6_patient_10 (by decide) (fun c_2 => ?_) (fun c_2 => ?_)
  · skip
    have c_2 : mwl (mt0 S) pp = false := nb_0 c_2
    refine lv_iconst (v := nI 0) hx hb dX6_patient_23 (by decide) ?_
    exact ct_zret (S := mt0 S) (v := nI 0) hx hb hr hlocks hK (by first | decide | exact nb_z _) hw (⟨by simp only [mptOk, c_2, decide_true, decide_false, Bool.not_true, Bool.not_false, Bool.true_and, Bool.and_true, Bool.false_and, Bool.and_false, Bool.or_true, Bool.true_or, Bool.or_false, Bool.false_or, Bool.false_eq_true, Bool.true_eq_false, if_true, if_false, ↓reduceIte]; rfl, by simp only [mptOk, c_2, decide_true, decide_false, Bool.not_true, Bool.not_false, Bool.true_and, Bool.and_true, Bool.false_and, Bool.and_false, Bool.or_true, Bool.true_or, Bool.or_false, Bool.false_or, Bool.false_eq_true, Bool.true_eq_false, if_true, if_false, ↓reduceIte]⟩) dX6_patient_24
  · skip
    have c_2 : mwl (mt0 S) pp = true := nb_1 c_2
    obtain ⟨p9, hp9, rfl⟩ := mwl_n c_2
    have ec_p9 := nI_clamp (n := p9) (by omega)
    refine lv_aload_n hx hb dX6_patient_13 rfl (lv_at hl 0 rfl) ?_
    refine wo_get hx hb hts inX6 hown hK hw 0 rfl rfl 8 (by decide) (hts _ wd_573) (fun _ h9 => h9) rfl dX6_patient_14 ?_
    refine lv_iload_n hx hb dX6_patient_17 rfl (lv_at hl 1 rfl) ?_
    refine wo_zald hx hb hK hw 7 2 rfl rfl p9 rfl (by first | assumption | omega) (by decide) dX6_patient_18 ?_
    refine lv_iload_n hx hb dX6_patient_19 rfl (lv_at hl 2 rfl) ?_
    refine lv_icmp_ne (tgt := 25) hx hb dX6_patient_20 (by decide) (fun c_3 => ?_) (fun c_3 => ?_)
    · skip
      refine lv_aload_n hx hb dX6_patient_25 rfl (lv_at hl 0 rfl) ?_
      refine wo_get hx hb hts inX6 hown hK hw 0 rfl rfl 8 (by decide) (hts _ wd_573) (fun _ h9 => h9) rfl dX6_patient_26 ?_
      refine lv_iload_n hx hb dX6_patient_29 rfl (lv_at hl 1 rfl) ?_
      refine lv_iload_n hx hb dX6_patient_30 rfl (lv_at hl 2 rfl) ?_
      refine wo_zast hx hb hK hw 7 2 rfl rfl p9 rfl (by first | assumption | omega) (by decide) (by first | decide | assumption | exact nb_v _) (sm_7 ca ad (mt0 S) p9 (bI b0)) dX6_patient_31 (fun H locs hw => ?_)
      refine lv_iconst (v := nI 1) hx hb dX6_patient_32 (by decide) ?_
      exact ct_zret (S := sI (mt0 S) 7 p9 (bI b0)) (v := nI 1) hx hb hr hlocks hK (by first | decide | exact nb_z _) hw (⟨by simp only [mptOk, c_2, ec_p9, c_3, decide_true, decide_false, Bool.not_true, Bool.not_false, Bool.true_and, Bool.and_true, Bool.false_and, Bool.and_false, Bool.or_true, Bool.true_or, Bool.or_false, Bool.false_or, Bool.false_eq_true, Bool.true_eq_false, if_true, if_false, ↓reduceIte]; rfl, by simp only [mptOk, c_2, ec_p9, c_3, decide_true, decide_false, Bool.not_true, Bool.not_false, Bool.true_and, Bool.and_true, Bool.false_and, Bool.and_false, Bool.or_true, Bool.true_or, Bool.or_false, Bool.false_or, Bool.false_eq_true, Bool.true_eq_false, if_true, if_false, ↓reduceIte]⟩) dX6_patient_33
    · skip
      refine lv_iconst (v := nI 0) hx hb dX6_patient_23 (by decide) ?_
      exact ct_zret (S := mt0 S) (v := nI 0) hx hb hr hlocks hK (by first | decide | exact nb_z _) hw (⟨by simp only [mptOk, c_2, ec_p9, c_3, decide_true, decide_false, Bool.not_true, Bool.not_false, Bool.true_and, Bool.and_true, Bool.false_and, Bool.and_false, Bool.or_true, Bool.true_or, Bool.or_false, Bool.false_or, Bool.false_eq_true, Bool.true_eq_false, if_true, if_false, ↓reduceIte]; rfl, by simp only [mptOk, c_2, ec_p9, c_3, decide_true, decide_false, Bool.not_true, Bool.not_false, Bool.true_and, Bool.and_true, Bool.false_and, Bool.and_false, Bool.or_true, Bool.true_or, Bool.or_false, Bool.false_or, Bool.false_eq_true, Bool.true_eq_false, if_true, if_false, ↓reduceIte]⟩) dX6_patient_24

set_option maxHeartbeats 4000000 in
set_option maxRecDepth 100000 in
theorem kX6_take (l : Launch) (dC : Nat → ClassId) (dI : Nat → Nat → Nat) (ca : Nat → ClassId) (ad : Nat → Nat) (S : sSt) (bb : Int32) (pp : Int32) (vv : Int64) (nb : Nat) (nr : Nat) (hb6 : nb ≤ 6) (hr2 : nr ≤ 200) (hmi : MI nb nr S) : ct_I l yX6_take (Cond.code yX6_take cX6_take 5 (some .int) :: wa_T) ({ frames := 2, cells := 0, slots := 0, locals := 49 } : Room) (dC, dI) vwCl (tyl ca) (wq ca ad) S [.ref (ad 0), .int bb, .int pp, .long vv] (fun r S2 => r = (mtkF (mt0 S) bb pp vv).1 ∧ S2 = (mtkF (mt0 S) bb pp vv).2) := by
  refine ct_ofI (by decide) (Nat.le_of_ble_eq_true rfl) ?_
  intro p e s m below meth c A ls hx hb hr hml hts hown hlocks hK hA hw hl
  have hl : lv_has ls 5 [(0, .ref (ad 0)), (1, .int bb), (2, .int pp), (3, .long vv)] := hl
  refine lv_aload_n hx hb dX6_take_0 rfl (lv_at hl 0 rfl) ?_
  refine lv_iconst (v := nI 0) hx hb dX6_take_1 (by decide) ?_
  refine wo_put (ty := .int) (v := .int (nI 0)) hx hb hts inX6 tyX6 tyX6_ok nmX6 hown hK hw 0 rfl rfl 0 (by decide) (hts _ wd_565) (fun _ h9 => h9) rfl (by decide +kernel) rfl rfl (Nat.le_of_ble_eq_true rfl) (sg_0 ca ad S (nI 0)) dX6_take_2 (fun H locs hw => ?_)
  have hw : wo_w (dC, dI) vwCl A s.heap (wq ca ad (mt0 S)) H locs := hw
  have hmt := MI_0 hmi
  refine lv_aload_n hx hb dX6_take_5 rfl (lv_at hl 0 rfl) ?_
  refine lv_iload_n hx hb dX6_take_6 rfl (lv_at hl 1 rfl) ?_
  refine wo_vI (As := [.int bb]) (rest := []) (kX6_isBound l dC dI ca ad (mt0 S) bb) ⟨hx, hb, hml, hown, hts⟩ (cwV 1 hts (wa_gV wd_691 wd_693 ws_16 wd_8 wd_694) rfl rfl rfl (by decide +kernel) ⟨Nat.le_of_ble_eq_true rfl, Nat.le_of_ble_eq_true rfl⟩) hK hw hA 0 rfl rfl rfl rfl hl.1 rfl (Nat.le_of_ble_eq_true rfl) dX6_take_7 ⟨Nat.zero_le _, Nat.zero_le _⟩ (fun r_1 S_1 H locs hp_1 hw => ?_)
  have e9 := hp_1.1.symm
  subst e9
  have e9 := hp_1.2.symm
  subst e9
  refine lv_if_eq (tgt := 40) hx hb dX6_take_10 (by decide) (fun c_2 => ?_) (fun c_2 => ?_)
  · skip
    have c_2 : mbd (mt0 S) bb = false := nb_0 c_2
    refine lv_iconst (v := (-1)) hx hb dX6_take_40 (by decide) ?_
    exact ct_iret (S := mt0 S) (v := (-1)) hx hb hr hlocks hK hw (⟨by simp only [mtkF, mtkG, mtkR, mrfS, mqapp, c_2, decide_true, decide_false, Bool.not_true, Bool.not_false, Bool.true_and, Bool.and_true, Bool.false_and, Bool.and_false, Bool.or_true, Bool.true_or, Bool.or_false, Bool.false_or, Bool.false_eq_true, Bool.true_eq_false, if_true, if_false, ↓reduceIte], by simp only [mtkF, mtkG, mtkR, mrfS, mqapp, c_2, decide_true, decide_false, Bool.not_true, Bool.not_false, Bool.true_and, Bool.and_true, Bool.false_and, Bool.and_false, Bool.or_true, Bool.true_or, Bool.or_false, Bool.false_or, Bool.false_eq_true, Bool.true_eq_false, if_true, if_false, ↓reduceIte]⟩) dX6_take_41
  · skip
    have c_2 : mbd (mt0 S) bb = true := nb_1 c_2
    obtain ⟨b9, hb9, rfl⟩ := mbd_n hmt.2.1 hb6 c_2
    have ec_b9 := nI_clamp (n := b9) (by omega)
    refine lv_aload_n hx hb dX6_take_13 rfl (lv_at hl 0 rfl) ?_
    refine lv_iload_n hx hb dX6_take_14 rfl (lv_at hl 2 rfl) ?_
    refine wo_vI (As := [.int pp]) (rest := []) (kX6_isWell l dC dI ca ad (mt0 S) pp) ⟨hx, hb, hml, hown, hts⟩ (cwV 1 hts (wa_gV wd_655 wd_657 ws_13 wd_8 wd_658) rfl rfl rfl (by decide +kernel) ⟨Nat.le_of_ble_eq_true rfl, Nat.le_of_ble_eq_true rfl⟩) hK hw hA 0 rfl rfl rfl rfl hl.1 rfl (Nat.le_of_ble_eq_true rfl) dX6_take_15 ⟨Nat.zero_le _, Nat.zero_le _⟩ (fun r_3 S_3 H locs hp_3 hw => ?_)
    have e9 := hp_3.1.symm
    subst e9
    have e9 := hp_3.2.symm
    subst e9
    refine lv_if_eq (tgt := 40) hx hb dX6_take_18 (by decide) (fun c_4 => ?_) (fun c_4 => ?_)
    · skip
      have c_4 : mwl (mt0 S) pp = false := nb_0 c_4
      refine lv_iconst (v := (-1)) hx hb dX6_take_40 (by decide) ?_
      exact ct_iret (S := mt0 S) (v := (-1)) hx hb hr hlocks hK hw (⟨by simp only [mtkF, mtkG, mtkR, mrfS, mqapp, c_2, ec_b9, c_4, decide_true, decide_false, Bool.not_true, Bool.not_false, Bool.true_and, Bool.and_true, Bool.false_and, Bool.and_false, Bool.or_true, Bool.true_or, Bool.or_false, Bool.false_or, Bool.false_eq_true, Bool.true_eq_false, if_true, if_false, ↓reduceIte], by simp only [mtkF, mtkG, mtkR, mrfS, mqapp, c_2, ec_b9, c_4, decide_true, decide_false, Bool.not_true, Bool.not_false, Bool.true_and, Bool.and_true, Bool.false_and, Bool.and_false, Bool.or_true, Bool.true_or, Bool.or_false, Bool.false_or, Bool.false_eq_true, Bool.true_eq_false, if_true, if_false, ↓reduceIte]⟩) dX6_take_41
    · skip
      have c_4 : mwl (mt0 S) pp = true := nb_1 c_4
      obtain ⟨p9, hp9, rfl⟩ := mwl_n c_4
      have ec_p9 := nI_clamp (n := p9) (by omega)
      refine lv_lload_n hx hb dX6_take_21 rfl (lv_at hl 3 rfl) ?_
      refine lv_lconst (v := 0) hx hb dX6_take_22 (by decide) ?_
      refine lc_eq (tgt := 40) hx hb dX6_take_23 dX6_take_24 (by decide) (fun c_5 => ?_) (fun c_5 => ?_)
      · skip
        refine lv_iconst (v := (-1)) hx hb dX6_take_40 (by decide) ?_
        exact ct_iret (S := mt0 S) (v := (-1)) hx hb hr hlocks hK hw (⟨by simp only [mtkF, mtkG, mtkR, mrfS, mqapp, c_2, ec_b9, c_4, ec_p9, c_5, decide_true, decide_false, Bool.not_true, Bool.not_false, Bool.true_and, Bool.and_true, Bool.false_and, Bool.and_false, Bool.or_true, Bool.true_or, Bool.or_false, Bool.false_or, Bool.false_eq_true, Bool.true_eq_false, if_true, if_false, ↓reduceIte], by simp only [mtkF, mtkG, mtkR, mrfS, mqapp, c_2, ec_b9, c_4, ec_p9, c_5, decide_true, decide_false, Bool.not_true, Bool.not_false, Bool.true_and, Bool.and_true, Bool.false_and, Bool.and_false, Bool.or_true, Bool.true_or, Bool.or_false, Bool.false_or, Bool.false_eq_true, Bool.true_eq_false, if_true, if_false, ↓reduceIte]⟩) dX6_take_41
      · skip
        refine lv_lload_n hx hb dX6_take_27 rfl (lv_at hl 3 rfl) ?_
        refine lv_ldc2 hx hb hown (hts _ wd_695) dX6_take_28 ?_
        refine lv_ldc2 hx hb hown (hts _ wd_671) dX6_take_31 ?_
        refine wo_sI (As := [.long vv, .long (-1000000000000), .long 1000000000000]) (rest := []) (kX6_within l dC dI ca ad (mt0 S) vv (-1000000000000) 1000000000000) ⟨hx, hb, hml, hown, hts⟩ (va_cwS 3 hts (wa_gS wd_660 wd_661 wd_8 wd_662) rfl rfl rfl (by decide +kernel) ⟨Nat.le_of_ble_eq_true rfl, Nat.le_of_ble_eq_true rfl⟩) hK hw hA rfl hl.1 rfl (Nat.le_of_ble_eq_true rfl) dX6_take_34 ⟨Nat.zero_le _, Nat.zero_le _⟩ (fun r_6 S_6 H locs hp_6 hw => ?_)
        have e9 := hp_6.1.symm
        subst e9
        have e9 := hp_6.2.symm
        subst e9
        refine lv_if_ne (tgt := 42) hx hb dX6_take_37 (by decide) (fun c_7 => ?_) (fun c_7 => ?_)
        · skip
          have c_7 : wth vv (-1000000000000) 1000000000000 = true := nb_1 c_7
          refine lv_aload_n hx hb dX6_take_42 rfl (lv_at hl 0 rfl) ?_
          refine lv_iload_n hx hb dX6_take_43 rfl (lv_at hl 1 rfl) ?_
          refine lv_iload_n hx hb dX6_take_44 rfl (lv_at hl 2 rfl) ?_
          refine lv_lload_n hx hb dX6_take_45 rfl (lv_at hl 3 rfl) ?_
          refine wo_vI (As := [.int (nI b9), .int (nI p9), .long vv]) (rest := []) (kX6_move l dC dI ca ad (mt0 S) b9 p9 vv (by first | assumption | omega) (by first | assumption | omega)) ⟨hx, hb, hml, hown, hts⟩ (cwV 3 hts (wa_gV wd_696 wd_698 ws_17 wd_8 wd_699) rfl rfl rfl (by decide +kernel) ⟨Nat.le_of_ble_eq_true rfl, Nat.le_of_ble_eq_true rfl⟩) hK hw hA 0 rfl rfl rfl rfl hl.1 rfl (Nat.le_of_ble_eq_true rfl) dX6_take_46 ⟨Nat.zero_le _, Nat.zero_le _⟩ (fun r_8 S_8 H locs hp_8 hw => ?_)
          have e9 := hp_8.1.symm
          subst e9
          have e9 := hp_8.2.symm
          subst e9
          refine lv_if_eq (tgt := 54) hx hb dX6_take_49 (by decide) (fun c_9 => ?_) (fun c_9 => ?_)
          · skip
            have c_9 : mmvOk (mt0 S) b9 p9 vv = false := nb_0 c_9
            rw [if_neg (by rw [c_9]; decide)] at hw
            obtain ⟨kq, hk8, hq, -⟩ := hmt.1 p9 hp9
            have ec_k : ((mt0 S).1 9 p9).toNatClampNeg = kq := by rw [hq, nI_clamp (by omega)]
            refine lv_aload_n hx hb dX6_take_54 rfl (lv_at hl 0 rfl) ?_
            refine wo_get hx hb hts inX6 hown hK hw 0 rfl rfl 8 (by decide) (hts _ wd_573) (fun _ h9 => h9) rfl dX6_take_55 ?_
            refine lv_iload_n hx hb dX6_take_58 rfl (lv_at hl 2 rfl) ?_
            refine wo_zald hx hb hK hw 7 2 rfl rfl p9 rfl (by first | assumption | omega) (by decide) dX6_take_59 ?_
            refine lv_if_eq (tgt := 74) hx hb dX6_take_60 (by decide) (fun c_10 => ?_) (fun c_10 => ?_)
            · skip
              refine lv_aload_n hx hb dX6_take_74 rfl (lv_at hl 0 rfl) ?_
              refine lv_dup hx hb dX6_take_75 rfl ?_
              refine wo_get hx hb hts inX6 hown hK hw 0 rfl rfl 23 (by decide) (hts _ wd_588) (fun _ h9 => h9) rfl dX6_take_76 ?_
              refine lv_iconst (v := nI 1) hx hb dX6_take_79 (by decide) ?_
              refine lv_iadd hx hb dX6_take_80 ?_
              refine wo_put (ty := .int) (v := .int (((mt0 S).1 0 23) + (nI 1))) hx hb hts inX6 tyX6 tyX6_ok nmX6 hown hK hw 0 rfl rfl 23 (by decide) (hts _ wd_588) (fun _ h9 => h9) rfl (by decide +kernel) rfl rfl (Nat.le_of_ble_eq_true rfl) (sg_23 ca ad (mt0 S) (((mt0 S).1 0 23) + (nI 1))) dX6_take_81 (fun H locs hw => ?_)
              refine lv_iconst (v := nI 0) hx hb dX6_take_84 (by decide) ?_
              exact ct_iret (S := sI (mt0 S) 0 23 (((mt0 S).1 0 23) + (nI 1))) (v := nI 0) hx hb hr hlocks hK hw (⟨by simp only [mtkF, mtkG, mtkR, mrfS, mqapp, c_2, ec_b9, c_4, ec_p9, c_5, c_7, c_9, c_10, ec_k, decide_true, decide_false, Bool.not_true, Bool.not_false, Bool.true_and, Bool.and_true, Bool.false_and, Bool.and_false, Bool.or_true, Bool.true_or, Bool.or_false, Bool.false_or, Bool.false_eq_true, Bool.true_eq_false, if_true, if_false, ↓reduceIte], by simp only [mtkF, mtkG, mtkR, mrfS, mqapp, c_2, ec_b9, c_4, ec_p9, c_5, c_7, c_9, c_10, ec_k, decide_true, decide_false, Bool.not_true, Bool.not_false, Bool.true_and, Bool.and_true, Bool.false_and, Bool.and_false, Bool.or_true, Bool.true_or, Bool.or_false, Bool.false_or, Bool.false_eq_true, Bool.true_eq_false, if_true, if_false, ↓reduceIte]⟩) dX6_take_85
            · skip
              refine lv_aload_n hx hb dX6_take_63 rfl (lv_at hl 0 rfl) ?_
              refine wo_get hx hb hts inX6 hown hK hw 0 rfl rfl 10 (by decide) (hts _ wd_575) (fun _ h9 => h9) rfl dX6_take_64 ?_
              refine lv_iload_n hx hb dX6_take_67 rfl (lv_at hl 2 rfl) ?_
              refine wo_iald hx hb hK hw 9 0 rfl rfl p9 rfl (by first | assumption | omega) (by decide) dX6_take_68 ?_
              refine tp_i (y := nI kq) (by first | exact hq | (rw [sI_1, if_neg (by omega)]; exact hq) | (rw [sL_1, sI_1, if_neg (by omega)]; exact hq)) ?_
              refine lv_bipush (v := nI 8) hx hb dX6_take_69 (by decide) ?_
              refine lv_icmp_ne (tgt := 86) hx hb dX6_take_71 (by decide) (fun c_11 => ?_) (fun c_11 => ?_)
              · skip
                have c_11 : ¬ (kq = 8) := fun h9 => c_11 ((nI_eq (a := kq) (b := 8) (by omega) (by omega)).mpr h9)
                refine lv_aload_n hx hb dX6_take_86 rfl (lv_at hl 0 rfl) ?_
                refine wo_get hx hb hts inX6 hown hK hw 0 rfl rfl 11 (by decide) (hts _ wd_576) (fun _ h9 => h9) rfl dX6_take_87 ?_
                refine lv_bipush (v := nI 8) hx hb dX6_take_90 (by decide) ?_
                refine lv_iload_n hx hb dX6_take_92 rfl (lv_at hl 2 rfl) ?_
                refine lv_imul hx hb dX6_take_93 ?_
                refine tp_i (pk_mul 8 p9) ?_
                refine lv_aload_n hx hb dX6_take_94 rfl (lv_at hl 0 rfl) ?_
                refine wo_get hx hb hts inX6 hown hK hw 0 rfl rfl 10 (by decide) (hts _ wd_575) (fun _ h9 => h9) rfl dX6_take_95 ?_
                refine lv_iload_n hx hb dX6_take_98 rfl (lv_at hl 2 rfl) ?_
                refine wo_iald hx hb hK hw 9 0 rfl rfl p9 rfl (by first | assumption | omega) (by decide) dX6_take_99 ?_
                refine tp_i (y := nI kq) (by first | exact hq | (rw [sI_1, if_neg (by omega)]; exact hq) | (rw [sL_1, sI_1, if_neg (by omega)]; exact hq)) ?_
                refine lv_iadd hx hb dX6_take_100 ?_
                refine tp_i (nI_add (8 * p9) kq) ?_
                refine lv_iload_n hx hb dX6_take_101 rfl (lv_at hl 1 rfl) ?_
                refine wo_iast hx hb hK hw 10 0 rfl rfl ((8 * p9) + kq) rfl (by first | assumption | omega) (by decide) (sm_10 ca ad (mt0 S) ((8 * p9) + kq) (nI b9)) dX6_take_102 (fun H locs hw => ?_)
                refine lv_aload_n hx hb dX6_take_103 rfl (lv_at hl 0 rfl) ?_
                refine wo_get hx hb hts inX6 hown hK hw 0 rfl rfl 12 (by decide) (hts _ wd_577) (fun _ h9 => h9) rfl dX6_take_104 ?_
                refine lv_bipush (v := nI 8) hx hb dX6_take_107 (by decide) ?_
                refine lv_iload_n hx hb dX6_take_109 rfl (lv_at hl 2 rfl) ?_
                refine lv_imul hx hb dX6_take_110 ?_
                refine tp_i (pk_mul 8 p9) ?_
                refine lv_aload_n hx hb dX6_take_111 rfl (lv_at hl 0 rfl) ?_
                refine wo_get hx hb hts inX6 hown hK hw 0 rfl rfl 10 (by decide) (hts _ wd_575) (fun _ h9 => h9) rfl dX6_take_112 ?_
                refine lv_iload_n hx hb dX6_take_115 rfl (lv_at hl 2 rfl) ?_
                refine wo_iald hx hb hK hw 9 0 rfl rfl p9 rfl (by first | assumption | omega) (by decide) dX6_take_116 ?_
                refine tp_i (y := nI kq) (by first | exact hq | (rw [sI_1, if_neg (by omega)]; exact hq) | (rw [sL_1, sI_1, if_neg (by omega)]; exact hq)) ?_
                refine lv_iadd hx hb dX6_take_117 ?_
                refine tp_i (nI_add (8 * p9) kq) ?_
                refine lv_lload_n hx hb dX6_take_118 rfl (lv_at hl 3 rfl) ?_
                refine wo_last hx hb hK hw 11 1 rfl rfl ((8 * p9) + kq) rfl (by first | assumption | omega) (by decide) (sm_11 ca ad (sI (mt0 S) 10 ((8 * p9) + kq) (nI b9)) ((8 * p9) + kq) vv) dX6_take_119 (fun H locs hw => ?_)
                refine lv_aload_n hx hb dX6_take_120 rfl (lv_at hl 0 rfl) ?_
                refine wo_get hx hb hts inX6 hown hK hw 0 rfl rfl 10 (by decide) (hts _ wd_575) (fun _ h9 => h9) rfl dX6_take_121 ?_
                refine lv_iload_n hx hb dX6_take_124 rfl (lv_at hl 2 rfl) ?_
                refine lv_dup2_11 hx hb dX6_take_125 rfl rfl ?_
                refine wo_iald hx hb hK hw 9 0 rfl rfl p9 rfl (by first | assumption | omega) (by decide) dX6_take_126 ?_
                refine tp_i (y := nI kq) (by first | exact hq | (rw [sI_1, if_neg (by omega)]; exact hq) | (rw [sL_1, sI_1, if_neg (by omega)]; exact hq)) ?_
                refine lv_iconst (v := nI 1) hx hb dX6_take_127 (by decide) ?_
                refine lv_iadd hx hb dX6_take_128 ?_
                refine tp_i (nI_add kq 1) ?_
                refine wo_iast hx hb hK hw 9 0 rfl rfl p9 rfl (by first | assumption | omega) (by decide) (sm_9 ca ad (sL (sI (mt0 S) 10 ((8 * p9) + kq) (nI b9)) 11 ((8 * p9) + kq) vv) p9 (nI (kq + 1))) dX6_take_129 (fun H locs hw => ?_)
                refine lv_iconst (v := nI 2) hx hb dX6_take_130 (by decide) ?_
                exact ct_iret (S := sI (sL (sI (mt0 S) 10 ((8 * p9) + kq) (nI b9)) 11 ((8 * p9) + kq) vv) 9 p9 (nI (kq + 1))) (v := nI 2) hx hb hr hlocks hK hw (⟨by simp only [mtkF, mtkG, mtkR, mrfS, mqapp, c_2, ec_b9, c_4, ec_p9, c_5, c_7, c_9, c_10, c_11, ec_k, decide_true, decide_false, Bool.not_true, Bool.not_false, Bool.true_and, Bool.and_true, Bool.false_and, Bool.and_false, Bool.or_true, Bool.true_or, Bool.or_false, Bool.false_or, Bool.false_eq_true, Bool.true_eq_false, if_true, if_false, ↓reduceIte], by simp only [mtkF, mtkG, mtkR, mrfS, mqapp, c_2, ec_b9, c_4, ec_p9, c_5, c_7, c_9, c_10, c_11, ec_k, decide_true, decide_false, Bool.not_true, Bool.not_false, Bool.true_and, Bool.and_true, Bool.false_and, Bool.and_false, Bool.or_true, Bool.true_or, Bool.or_false, Bool.false_or, Bool.false_eq_true, Bool.true_eq_false, if_true, if_false, ↓reduceIte]⟩) dX6_take_131
              · skip
                have c_11 : kq = 8 := (nI_eq (a := kq) (b := 8) (by omega) (by omega)).mp c_11
                refine lv_aload_n hx hb dX6_take_74 rfl (lv_at hl 0 rfl) ?_
                refine lv_dup hx hb dX6_take_75 rfl ?_
                refine wo_get hx hb hts inX6 hown hK hw 0 rfl rfl 23 (by decide) (hts _ wd_588) (fun _ h9 => h9) rfl dX6_take_76 ?_
                refine lv_iconst (v := nI 1) hx hb dX6_take_79 (by decide) ?_
                refine lv_iadd hx hb dX6_take_80 ?_
                refine wo_put (ty := .int) (v := .int (((mt0 S).1 0 23) + (nI 1))) hx hb hts inX6 tyX6 tyX6_ok nmX6 hown hK hw 0 rfl rfl 23 (by decide) (hts _ wd_588) (fun _ h9 => h9) rfl (by decide +kernel) rfl rfl (Nat.le_of_ble_eq_true rfl) (sg_23 ca ad (mt0 S) (((mt0 S).1 0 23) + (nI 1))) dX6_take_81 (fun H locs hw => ?_)
                refine lv_iconst (v := nI 0) hx hb dX6_take_84 (by decide) ?_
                exact ct_iret (S := sI (mt0 S) 0 23 (((mt0 S).1 0 23) + (nI 1))) (v := nI 0) hx hb hr hlocks hK hw (⟨by simp only [mtkF, mtkG, mtkR, mrfS, mqapp, c_2, ec_b9, c_4, ec_p9, c_5, c_7, c_9, c_10, c_11, ec_k, decide_true, decide_false, Bool.not_true, Bool.not_false, Bool.true_and, Bool.and_true, Bool.false_and, Bool.and_false, Bool.or_true, Bool.true_or, Bool.or_false, Bool.false_or, Bool.false_eq_true, Bool.true_eq_false, if_true, if_false, ↓reduceIte], by simp only [mtkF, mtkG, mtkR, mrfS, mqapp, c_2, ec_b9, c_4, ec_p9, c_5, c_7, c_9, c_10, c_11, ec_k, decide_true, decide_false, Bool.not_true, Bool.not_false, Bool.true_and, Bool.and_true, Bool.false_and, Bool.and_false, Bool.or_true, Bool.true_or, Bool.or_false, Bool.false_or, Bool.false_eq_true, Bool.true_eq_false, if_true, if_false, ↓reduceIte]⟩) dX6_take_85
          · skip
            have c_9 : mmvOk (mt0 S) b9 p9 vv = true := nb_1 c_9
            rw [if_pos c_9] at hw
            refine lv_iconst (v := nI 1) hx hb dX6_take_52 (by decide) ?_
            exact ct_iret (S := mmvS (mt0 S) b9 p9 vv) (v := nI 1) hx hb hr hlocks hK hw (⟨by simp only [mtkF, mtkG, mtkR, mrfS, mqapp, c_2, ec_b9, c_4, ec_p9, c_5, c_7, c_9, decide_true, decide_false, Bool.not_true, Bool.not_false, Bool.true_and, Bool.and_true, Bool.false_and, Bool.and_false, Bool.or_true, Bool.true_or, Bool.or_false, Bool.false_or, Bool.false_eq_true, Bool.true_eq_false, if_true, if_false, ↓reduceIte], by simp only [mtkF, mtkG, mtkR, mrfS, mqapp, c_2, ec_b9, c_4, ec_p9, c_5, c_7, c_9, decide_true, decide_false, Bool.not_true, Bool.not_false, Bool.true_and, Bool.and_true, Bool.false_and, Bool.and_false, Bool.or_true, Bool.true_or, Bool.or_false, Bool.false_or, Bool.false_eq_true, Bool.true_eq_false, if_true, if_false, ↓reduceIte]⟩) dX6_take_53
        · skip
          have c_7 : wth vv (-1000000000000) 1000000000000 = false := nb_0 c_7
          refine lv_iconst (v := (-1)) hx hb dX6_take_40 (by decide) ?_
          exact ct_iret (S := mt0 S) (v := (-1)) hx hb hr hlocks hK hw (⟨by simp only [mtkF, mtkG, mtkR, mrfS, mqapp, c_2, ec_b9, c_4, ec_p9, c_5, c_7, decide_true, decide_false, Bool.not_true, Bool.not_false, Bool.true_and, Bool.and_true, Bool.false_and, Bool.and_false, Bool.or_true, Bool.true_or, Bool.or_false, Bool.false_or, Bool.false_eq_true, Bool.true_eq_false, if_true, if_false, ↓reduceIte], by simp only [mtkF, mtkG, mtkR, mrfS, mqapp, c_2, ec_b9, c_4, ec_p9, c_5, c_7, decide_true, decide_false, Bool.not_true, Bool.not_false, Bool.true_and, Bool.and_true, Bool.false_and, Bool.and_false, Bool.or_true, Bool.true_or, Bool.or_false, Bool.false_or, Bool.false_eq_true, Bool.true_eq_false, if_true, if_false, ↓reduceIte]⟩) dX6_take_41
