theorem dX5_weigh_0 : decode cX5_weigh 0 = .ok (.aload_n 0, 1) := by decide +kernel
theorem dX5_weigh_1 : decode cX5_weigh 1 = .ok (.getfield 10, 3) := by decide +kernel
theorem dX5_weigh_4 : decode cX5_weigh 4 = .ok (.iload_n 1, 1) := by decide +kernel
theorem dX5_weigh_5 : decode cX5_weigh 5 = .ok (.invokevirtual 44, 3) := by decide +kernel
theorem dX5_weigh_8 : decode cX5_weigh 8 = .ok (.ifCond .eq 17, 3) := by decide +kernel
theorem dX5_weigh_11 : decode cX5_weigh 11 = .ok (.lload_n 2, 1) := by decide +kernel
theorem dX5_weigh_12 : decode cX5_weigh 12 = .ok (.lconst 0, 1) := by decide +kernel
theorem dX5_weigh_13 : decode cX5_weigh 13 = .ok (.lcmp, 1) := by decide +kernel
theorem dX5_weigh_14 : decode cX5_weigh 14 = .ok (.ifCond .lt 11, 3) := by decide +kernel
theorem dX5_weigh_17 : decode cX5_weigh 17 = .ok (.lload_n 2, 1) := by decide +kernel
theorem dX5_weigh_18 : decode cX5_weigh 18 = .ok (.ldc2_w 48, 3) := by decide +kernel
theorem dX5_weigh_21 : decode cX5_weigh 21 = .ok (.lcmp, 1) := by decide +kernel
theorem dX5_weigh_22 : decode cX5_weigh 22 = .ok (.ifCond .le 5, 3) := by decide +kernel
theorem dX5_weigh_25 : decode cX5_weigh 25 = .ok (.iconst 0, 1) := by decide +kernel
theorem dX5_weigh_26 : decode cX5_weigh 26 = .ok (.ireturn, 1) := by decide +kernel
theorem dX5_weigh_27 : decode cX5_weigh 27 = .ok (.aload_n 0, 1) := by decide +kernel
theorem dX5_weigh_28 : decode cX5_weigh 28 = .ok (.getfield 10, 3) := by decide +kernel
theorem dX5_weigh_31 : decode cX5_weigh 31 = .ok (.getfield 50, 3) := by decide +kernel
theorem dX5_weigh_34 : decode cX5_weigh 34 = .ok (.iload_n 1, 1) := by decide +kernel
theorem dX5_weigh_35 : decode cX5_weigh 35 = .ok (.lload_n 2, 1) := by decide +kernel
theorem dX5_weigh_36 : decode cX5_weigh 36 = .ok (.lastore, 1) := by decide +kernel
theorem dX5_weigh_37 : decode cX5_weigh 37 = .ok (.iconst 1, 1) := by decide +kernel
theorem dX5_weigh_38 : decode cX5_weigh 38 = .ok (.ireturn, 1) := by decide +kernel

theorem dX5_patient_0 : decode cX5_patient 0 = .ok (.aload_n 0, 1) := by decide +kernel
theorem dX5_patient_1 : decode cX5_patient 1 = .ok (.getfield 10, 3) := by decide +kernel
theorem dX5_patient_4 : decode cX5_patient 4 = .ok (.iload_n 1, 1) := by decide +kernel
theorem dX5_patient_5 : decode cX5_patient 5 = .ok (.invokevirtual 44, 3) := by decide +kernel
theorem dX5_patient_8 : decode cX5_patient 8 = .ok (.ifCond .eq 16, 3) := by decide +kernel
theorem dX5_patient_11 : decode cX5_patient 11 = .ok (.aload_n 0, 1) := by decide +kernel
theorem dX5_patient_12 : decode cX5_patient 12 = .ok (.getfield 10, 3) := by decide +kernel
theorem dX5_patient_15 : decode cX5_patient 15 = .ok (.getfield 101, 3) := by decide +kernel
theorem dX5_patient_18 : decode cX5_patient 18 = .ok (.iload_n 1, 1) := by decide +kernel
theorem dX5_patient_19 : decode cX5_patient 19 = .ok (.baload, 1) := by decide +kernel
theorem dX5_patient_20 : decode cX5_patient 20 = .ok (.iload_n 2, 1) := by decide +kernel
theorem dX5_patient_21 : decode cX5_patient 21 = .ok (.if_icmp .ne 5, 3) := by decide +kernel
theorem dX5_patient_24 : decode cX5_patient 24 = .ok (.iconst 0, 1) := by decide +kernel
theorem dX5_patient_25 : decode cX5_patient 25 = .ok (.ireturn, 1) := by decide +kernel
theorem dX5_patient_26 : decode cX5_patient 26 = .ok (.aload_n 0, 1) := by decide +kernel
theorem dX5_patient_27 : decode cX5_patient 27 = .ok (.getfield 10, 3) := by decide +kernel
theorem dX5_patient_30 : decode cX5_patient 30 = .ok (.getfield 101, 3) := by decide +kernel
theorem dX5_patient_33 : decode cX5_patient 33 = .ok (.iload_n 1, 1) := by decide +kernel
theorem dX5_patient_34 : decode cX5_patient 34 = .ok (.iload_n 2, 1) := by decide +kernel
theorem dX5_patient_35 : decode cX5_patient 35 = .ok (.bastore, 1) := by decide +kernel
theorem dX5_patient_36 : decode cX5_patient 36 = .ok (.iconst 1, 1) := by decide +kernel
theorem dX5_patient_37 : decode cX5_patient 37 = .ok (.ireturn, 1) := by decide +kernel

theorem dX5_take_0 : decode cX5_take 0 = .ok (.aload_n 0, 1) := by decide +kernel
theorem dX5_take_1 : decode cX5_take 1 = .ok (.getfield 19, 3) := by decide +kernel
theorem dX5_take_4 : decode cX5_take 4 = .ok (.iload_n 1, 1) := by decide +kernel
theorem dX5_take_5 : decode cX5_take 5 = .ok (.invokevirtual 105, 3) := by decide +kernel
theorem dX5_take_8 : decode cX5_take 8 = .ok (.ifCond .eq 36, 3) := by decide +kernel
theorem dX5_take_11 : decode cX5_take 11 = .ok (.aload_n 0, 1) := by decide +kernel
theorem dX5_take_12 : decode cX5_take 12 = .ok (.getfield 10, 3) := by decide +kernel
theorem dX5_take_15 : decode cX5_take 15 = .ok (.iload_n 2, 1) := by decide +kernel
theorem dX5_take_16 : decode cX5_take 16 = .ok (.invokevirtual 44, 3) := by decide +kernel
theorem dX5_take_19 : decode cX5_take 19 = .ok (.ifCond .eq 25, 3) := by decide +kernel
theorem dX5_take_22 : decode cX5_take 22 = .ok (.lload_n 3, 1) := by decide +kernel
theorem dX5_take_23 : decode cX5_take 23 = .ok (.lconst 0, 1) := by decide +kernel
theorem dX5_take_24 : decode cX5_take 24 = .ok (.lcmp, 1) := by decide +kernel
theorem dX5_take_25 : decode cX5_take 25 = .ok (.ifCond .eq 19, 3) := by decide +kernel
theorem dX5_take_28 : decode cX5_take 28 = .ok (.lload_n 3, 1) := by decide +kernel
theorem dX5_take_29 : decode cX5_take 29 = .ok (.ldc2_w 108, 3) := by decide +kernel
theorem dX5_take_32 : decode cX5_take 32 = .ok (.lcmp, 1) := by decide +kernel
theorem dX5_take_33 : decode cX5_take 33 = .ok (.ifCond .lt 11, 3) := by decide +kernel
theorem dX5_take_36 : decode cX5_take 36 = .ok (.lload_n 3, 1) := by decide +kernel
theorem dX5_take_37 : decode cX5_take 37 = .ok (.ldc2_w 110, 3) := by decide +kernel
theorem dX5_take_40 : decode cX5_take 40 = .ok (.lcmp, 1) := by decide +kernel
theorem dX5_take_41 : decode cX5_take 41 = .ok (.ifCond .le 5, 3) := by decide +kernel
theorem dX5_take_44 : decode cX5_take 44 = .ok (.iconst (-1), 1) := by decide +kernel
theorem dX5_take_45 : decode cX5_take 45 = .ok (.ireturn, 1) := by decide +kernel
theorem dX5_take_46 : decode cX5_take 46 = .ok (.aload_n 0, 1) := by decide +kernel
theorem dX5_take_47 : decode cX5_take 47 = .ok (.getfield 19, 3) := by decide +kernel
theorem dX5_take_50 : decode cX5_take 50 = .ok (.iload_n 1, 1) := by decide +kernel
theorem dX5_take_51 : decode cX5_take 51 = .ok (.iload_n 2, 1) := by decide +kernel
theorem dX5_take_52 : decode cX5_take 52 = .ok (.lload_n 3, 1) := by decide +kernel
theorem dX5_take_53 : decode cX5_take 53 = .ok (.invokevirtual 112, 3) := by decide +kernel
theorem dX5_take_56 : decode cX5_take 56 = .ok (.ifCond .eq 15, 3) := by decide +kernel
theorem dX5_take_59 : decode cX5_take 59 = .ok (.aload_n 0, 1) := by decide +kernel
theorem dX5_take_60 : decode cX5_take 60 = .ok (.dup, 1) := by decide +kernel
theorem dX5_take_61 : decode cX5_take 61 = .ok (.getfield 116, 3) := by decide +kernel
theorem dX5_take_64 : decode cX5_take 64 = .ok (.iconst 1, 1) := by decide +kernel
theorem dX5_take_65 : decode cX5_take 65 = .ok (.iadd, 1) := by decide +kernel
theorem dX5_take_66 : decode cX5_take 66 = .ok (.putfield 116, 3) := by decide +kernel
theorem dX5_take_69 : decode cX5_take 69 = .ok (.iconst 1, 1) := by decide +kernel
theorem dX5_take_70 : decode cX5_take 70 = .ok (.ireturn, 1) := by decide +kernel
theorem dX5_take_71 : decode cX5_take 71 = .ok (.aload_n 0, 1) := by decide +kernel
theorem dX5_take_72 : decode cX5_take 72 = .ok (.getfield 10, 3) := by decide +kernel
theorem dX5_take_75 : decode cX5_take 75 = .ok (.getfield 101, 3) := by decide +kernel
theorem dX5_take_78 : decode cX5_take 78 = .ok (.iload_n 2, 1) := by decide +kernel
theorem dX5_take_79 : decode cX5_take 79 = .ok (.baload, 1) := by decide +kernel
theorem dX5_take_80 : decode cX5_take 80 = .ok (.ifCond .eq 18, 3) := by decide +kernel
theorem dX5_take_83 : decode cX5_take 83 = .ok (.aload_n 0, 1) := by decide +kernel
theorem dX5_take_84 : decode cX5_take 84 = .ok (.getfield 33, 3) := by decide +kernel
theorem dX5_take_87 : decode cX5_take 87 = .ok (.iload_n 2, 1) := by decide +kernel
theorem dX5_take_88 : decode cX5_take 88 = .ok (.iload_n 1, 1) := by decide +kernel
theorem dX5_take_89 : decode cX5_take 89 = .ok (.lload_n 3, 1) := by decide +kernel
theorem dX5_take_90 : decode cX5_take 90 = .ok (.invokevirtual 119, 3) := by decide +kernel
theorem dX5_take_93 : decode cX5_take 93 = .ok (.ifCond .eq 5, 3) := by decide +kernel
theorem dX5_take_96 : decode cX5_take 96 = .ok (.iconst 2, 1) := by decide +kernel
theorem dX5_take_97 : decode cX5_take 97 = .ok (.ireturn, 1) := by decide +kernel
theorem dX5_take_98 : decode cX5_take 98 = .ok (.aload_n 0, 1) := by decide +kernel
theorem dX5_take_99 : decode cX5_take 99 = .ok (.dup, 1) := by decide +kernel
theorem dX5_take_100 : decode cX5_take 100 = .ok (.getfield 122, 3) := by decide +kernel
theorem dX5_take_103 : decode cX5_take 103 = .ok (.iconst 1, 1) := by decide +kernel
theorem dX5_take_104 : decode cX5_take 104 = .ok (.iadd, 1) := by decide +kernel
theorem dX5_take_105 : decode cX5_take 105 = .ok (.putfield 122, 3) := by decide +kernel
theorem dX5_take_108 : decode cX5_take 108 = .ok (.iconst 0, 1) := by decide +kernel
theorem dX5_take_109 : decode cX5_take 109 = .ok (.ireturn, 1) := by decide +kernel

theorem dX5_lend_0 : decode cX5_lend 0 = .ok (.aload_n 0, 1) := by decide +kernel
theorem dX5_lend_1 : decode cX5_lend 1 = .ok (.iload_n 1, 1) := by decide +kernel
theorem dX5_lend_2 : decode cX5_lend 2 = .ok (.iload_n 2, 1) := by decide +kernel
theorem dX5_lend_3 : decode cX5_lend 3 = .ok (.iload 4, 2) := by decide +kernel
theorem dX5_lend_5 : decode cX5_lend 5 = .ok (.lload 5, 2) := by decide +kernel
theorem dX5_lend_7 : decode cX5_lend 7 = .ok (.invokevirtual 125, 3) := by decide +kernel
theorem dX5_lend_10 : decode cX5_lend 10 = .ok (.ifCond .eq 20, 3) := by decide +kernel
theorem dX5_lend_13 : decode cX5_lend 13 = .ok (.aload_n 0, 1) := by decide +kernel
theorem dX5_lend_14 : decode cX5_lend 14 = .ok (.getfield 10, 3) := by decide +kernel
theorem dX5_lend_17 : decode cX5_lend 17 = .ok (.iload_n 3, 1) := by decide +kernel
theorem dX5_lend_18 : decode cX5_lend 18 = .ok (.invokevirtual 44, 3) := by decide +kernel
theorem dX5_lend_21 : decode cX5_lend 21 = .ok (.ifCond .eq 9, 3) := by decide +kernel
theorem dX5_lend_24 : decode cX5_lend 24 = .ok (.iload_n 3, 1) := by decide +kernel
theorem dX5_lend_25 : decode cX5_lend 25 = .ok (.iload 4, 2) := by decide +kernel
theorem dX5_lend_27 : decode cX5_lend 27 = .ok (.if_icmp .ne 5, 3) := by decide +kernel
theorem dX5_lend_30 : decode cX5_lend 30 = .ok (.iconst (-1), 1) := by decide +kernel
theorem dX5_lend_31 : decode cX5_lend 31 = .ok (.ireturn, 1) := by decide +kernel
theorem dX5_lend_32 : decode cX5_lend 32 = .ok (.aload_n 0, 1) := by decide +kernel
theorem dX5_lend_33 : decode cX5_lend 33 = .ok (.getfield 19, 3) := by decide +kernel
theorem dX5_lend_36 : decode cX5_lend 36 = .ok (.iload_n 1, 1) := by decide +kernel
theorem dX5_lend_37 : decode cX5_lend 37 = .ok (.iload_n 2, 1) := by decide +kernel
theorem dX5_lend_38 : decode cX5_lend 38 = .ok (.iload_n 3, 1) := by decide +kernel
theorem dX5_lend_39 : decode cX5_lend 39 = .ok (.invokevirtual 129, 3) := by decide +kernel
theorem dX5_lend_42 : decode cX5_lend 42 = .ok (.lload 5, 2) := by decide +kernel
theorem dX5_lend_44 : decode cX5_lend 44 = .ok (.lcmp, 1) := by decide +kernel
theorem dX5_lend_45 : decode cX5_lend 45 = .ok (.ifCond .ge 5, 3) := by decide +kernel
theorem dX5_lend_48 : decode cX5_lend 48 = .ok (.iconst 0, 1) := by decide +kernel
theorem dX5_lend_49 : decode cX5_lend 49 = .ok (.ireturn, 1) := by decide +kernel
theorem dX5_lend_50 : decode cX5_lend 50 = .ok (.aload_n 0, 1) := by decide +kernel
theorem dX5_lend_51 : decode cX5_lend 51 = .ok (.iload_n 1, 1) := by decide +kernel
theorem dX5_lend_52 : decode cX5_lend 52 = .ok (.iload_n 2, 1) := by decide +kernel
theorem dX5_lend_53 : decode cX5_lend 53 = .ok (.iload_n 3, 1) := by decide +kernel
theorem dX5_lend_54 : decode cX5_lend 54 = .ok (.iload 4, 2) := by decide +kernel
theorem dX5_lend_56 : decode cX5_lend 56 = .ok (.lload 5, 2) := by decide +kernel
theorem dX5_lend_58 : decode cX5_lend 58 = .ok (.invokevirtual 133, 3) := by decide +kernel
theorem dX5_lend_61 : decode cX5_lend 61 = .ok (.ireturn, 1) := by decide +kernel

theorem dX5_ask_0 : decode cX5_ask 0 = .ok (.aload_n 0, 1) := by decide +kernel
theorem dX5_ask_1 : decode cX5_ask 1 = .ok (.iload_n 1, 1) := by decide +kernel
theorem dX5_ask_2 : decode cX5_ask 2 = .ok (.iload_n 2, 1) := by decide +kernel
theorem dX5_ask_3 : decode cX5_ask 3 = .ok (.iload_n 3, 1) := by decide +kernel
theorem dX5_ask_4 : decode cX5_ask 4 = .ok (.lload 4, 2) := by decide +kernel
theorem dX5_ask_6 : decode cX5_ask 6 = .ok (.invokevirtual 125, 3) := by decide +kernel
theorem dX5_ask_9 : decode cX5_ask 9 = .ok (.ifCond .ne 5, 3) := by decide +kernel
theorem dX5_ask_12 : decode cX5_ask 12 = .ok (.iconst (-1), 1) := by decide +kernel
theorem dX5_ask_13 : decode cX5_ask 13 = .ok (.ireturn, 1) := by decide +kernel
theorem dX5_ask_14 : decode cX5_ask 14 = .ok (.aload_n 0, 1) := by decide +kernel
theorem dX5_ask_15 : decode cX5_ask 15 = .ok (.iload_n 1, 1) := by decide +kernel
theorem dX5_ask_16 : decode cX5_ask 16 = .ok (.iload_n 2, 1) := by decide +kernel
theorem dX5_ask_17 : decode cX5_ask 17 = .ok (.iload_n 3, 1) := by decide +kernel
theorem dX5_ask_18 : decode cX5_ask 18 = .ok (.invokevirtual 137, 3) := by decide +kernel
theorem dX5_ask_21 : decode cX5_ask 21 = .ok (.istore 6, 2) := by decide +kernel
theorem dX5_ask_23 : decode cX5_ask 23 = .ok (.iload 6, 2) := by decide +kernel
theorem dX5_ask_25 : decode cX5_ask 25 = .ok (.iconst (-1), 1) := by decide +kernel
theorem dX5_ask_26 : decode cX5_ask 26 = .ok (.if_icmp .ne 5, 3) := by decide +kernel
theorem dX5_ask_29 : decode cX5_ask 29 = .ok (.iconst 0, 1) := by decide +kernel
theorem dX5_ask_30 : decode cX5_ask 30 = .ok (.ireturn, 1) := by decide +kernel
theorem dX5_ask_31 : decode cX5_ask 31 = .ok (.aload_n 0, 1) := by decide +kernel
theorem dX5_ask_32 : decode cX5_ask 32 = .ok (.iload_n 1, 1) := by decide +kernel
theorem dX5_ask_33 : decode cX5_ask 33 = .ok (.iload_n 2, 1) := by decide +kernel
theorem dX5_ask_34 : decode cX5_ask 34 = .ok (.iload 6, 2) := by decide +kernel
theorem dX5_ask_36 : decode cX5_ask 36 = .ok (.iload_n 3, 1) := by decide +kernel
theorem dX5_ask_37 : decode cX5_ask 37 = .ok (.lload 4, 2) := by decide +kernel
theorem dX5_ask_39 : decode cX5_ask 39 = .ok (.aload_n 0, 1) := by decide +kernel
theorem dX5_ask_40 : decode cX5_ask 40 = .ok (.getfield 19, 3) := by decide +kernel
theorem dX5_ask_43 : decode cX5_ask 43 = .ok (.iload_n 1, 1) := by decide +kernel
theorem dX5_ask_44 : decode cX5_ask 44 = .ok (.iload_n 2, 1) := by decide +kernel
theorem dX5_ask_45 : decode cX5_ask 45 = .ok (.iload 6, 2) := by decide +kernel
theorem dX5_ask_47 : decode cX5_ask 47 = .ok (.invokevirtual 129, 3) := by decide +kernel
theorem dX5_ask_50 : decode cX5_ask 50 = .ok (.invokestatic 141, 3) := by decide +kernel
theorem dX5_ask_53 : decode cX5_ask 53 = .ok (.invokevirtual 133, 3) := by decide +kernel
theorem dX5_ask_56 : decode cX5_ask 56 = .ok (.ireturn, 1) := by decide +kernel

set_option maxHeartbeats 4000000 in
set_option maxRecDepth 100000 in
theorem kX5_weigh (l : Launch) (dC : Nat → ClassId) (dI : Nat → Nat → Nat) (ca : Nat → ClassId) (ad : Nat → Nat) (S : sSt) (pp : Int32) (ww : Int64) : ct_I l yX5_weigh (Cond.code yX5_weigh cX5_weigh 4 (some .boolean) :: wa_T) ({ frames := 2, cells := 0, slots := 0, locals := 41 } : Room) (dC, dI) vwCl (tyl ca) (wc ca ad) S [.ref (ad 0), .int pp, .long ww] (fun r S2 => r = bI (wgOk S pp ww) ∧ S2 = (if wgOk S pp ww = true then sL S 6 pp.toNatClampNeg ww else S)) := by
  refine ct_ofI (by decide) (Nat.le_of_ble_eq_true rfl) ?_
  intro p e s m below meth c A ls hx hb hr hml hts hown hlocks hK hA hw hl
  have hl : lv_has ls 4 [(0, .ref (ad 0)), (1, .int pp), (2, .long ww)] := hl
  refine lv_aload_n hx hb dX5_weigh_0 rfl (lv_at hl 0 rfl) ?_
  refine wo_get hx hb hts inX5 hown hK hw 0 rfl rfl 0 (by decide) (hts _ wd_166) (fun _ h9 => h9) rfl dX5_weigh_1 ?_
  refine lv_iload_n hx hb dX5_weigh_4 rfl (lv_at hl 1 rfl) ?_
  refine wo_vI (As := [.int pp]) (rest := []) (kX1_isWell l dC dI ca ad S pp) ⟨hx, hb, hml, hown, hts⟩ (cwV 1 hts (wa_gV wd_192 wd_193 wd_194 wd_2 wd_195) rfl rfl rfl (by decide +kernel) ⟨Nat.le_of_ble_eq_true rfl, Nat.le_of_ble_eq_true rfl⟩) hK hw hA 1 rfl rfl rfl rfl hl.1 rfl (Nat.le_of_ble_eq_true rfl) dX5_weigh_5 ⟨Nat.zero_le _, Nat.zero_le _⟩ (fun r_1 S_1 H locs hp_1 hw => ?_)
  have e9 := hp_1.1.symm
  subst e9
  have e9 := hp_1.2.symm
  subst e9
  refine lv_if_eq (tgt := 25) hx hb dX5_weigh_8 (by decide) (fun c_2 => ?_) (fun c_2 => ?_)
  · skip
    have c_2 : wl S pp = false := nb_0 c_2
    refine lv_iconst (v := nI 0) hx hb dX5_weigh_25 (by decide) ?_
    exact ct_zret (S := S) (v := nI 0) hx hb hr hlocks hK (by first | decide | exact nb_z _) hw (⟨by simp only [bI, wgOk, c_2, decide_true, decide_false, Bool.not_true, Bool.not_false, Bool.true_and, Bool.and_true, Bool.false_and, Bool.and_false, Bool.or_true, Bool.true_or, Bool.or_false, Bool.false_or, Bool.false_eq_true, Bool.true_eq_false, if_true, if_false, ↓reduceIte], by simp only [wgOk, c_2, decide_true, decide_false, Bool.not_true, Bool.not_false, Bool.true_and, Bool.and_true, Bool.false_and, Bool.and_false, Bool.or_true, Bool.true_or, Bool.or_false, Bool.false_or, Bool.false_eq_true, Bool.true_eq_false, if_true, if_false, ↓reduceIte]⟩) dX5_weigh_26
  · skip
    have c_2 : wl S pp = true := nb_1 c_2
    obtain ⟨p9, hp9, rfl⟩ := wl_n c_2
    have ec_p9 := nI_clamp (n := p9) (by omega)
    refine lv_lload_n hx hb dX5_weigh_11 rfl (lv_at hl 2 rfl) ?_
    refine lv_lconst (v := 0) hx hb dX5_weigh_12 (by decide) ?_
    refine lc_lt (tgt := 25) hx hb dX5_weigh_13 dX5_weigh_14 (by decide) (fun c_3 => ?_) (fun c_3 => ?_)
    · skip
      refine lv_iconst (v := nI 0) hx hb dX5_weigh_25 (by decide) ?_
      exact ct_zret (S := S) (v := nI 0) hx hb hr hlocks hK (by first | decide | exact nb_z _) hw (⟨by simp only [bI, wgOk, c_2, ec_p9, c_3, decide_true, decide_false, Bool.not_true, Bool.not_false, Bool.true_and, Bool.and_true, Bool.false_and, Bool.and_false, Bool.or_true, Bool.true_or, Bool.or_false, Bool.false_or, Bool.false_eq_true, Bool.true_eq_false, if_true, if_false, ↓reduceIte], by simp only [wgOk, c_2, ec_p9, c_3, decide_true, decide_false, Bool.not_true, Bool.not_false, Bool.true_and, Bool.and_true, Bool.false_and, Bool.and_false, Bool.or_true, Bool.true_or, Bool.or_false, Bool.false_or, Bool.false_eq_true, Bool.true_eq_false, if_true, if_false, ↓reduceIte]⟩) dX5_weigh_26
    · skip
      refine lv_lload_n hx hb dX5_weigh_17 rfl (lv_at hl 2 rfl) ?_
      refine lv_ldc2 hx hb hown (hts _ wd_199) dX5_weigh_18 ?_
      refine lc_le (tgt := 27) hx hb dX5_weigh_21 dX5_weigh_22 (by decide) (fun c_4 => ?_) (fun c_4 => ?_)
      · skip
        refine lv_aload_n hx hb dX5_weigh_27 rfl (lv_at hl 0 rfl) ?_
        refine wo_get hx hb hts inX5 hown hK hw 0 rfl rfl 0 (by decide) (hts _ wd_166) (fun _ h9 => h9) rfl dX5_weigh_28 ?_
        refine wo_get hx hb hts inX1 hown hK hw 1 rfl rfl 0 (by decide) (hts _ wd_36) (fun _ h9 => h9) rfl dX5_weigh_31 ?_
        refine lv_iload_n hx hb dX5_weigh_34 rfl (lv_at hl 1 rfl) ?_
        refine lv_lload_n hx hb dX5_weigh_35 rfl (lv_at hl 2 rfl) ?_
        refine wo_last hx hb hK hw 6 1 rfl rfl p9 rfl (by first | assumption | omega) (by decide) (se_6 ca ad S p9 ww) dX5_weigh_36 (fun H locs hw => ?_)
        refine lv_iconst (v := nI 1) hx hb dX5_weigh_37 (by decide) ?_
        exact ct_zret (S := sL S 6 p9 ww) (v := nI 1) hx hb hr hlocks hK (by first | decide | exact nb_z _) hw (⟨by simp only [bI, wgOk, c_2, ec_p9, c_3, c_4, decide_true, decide_false, Bool.not_true, Bool.not_false, Bool.true_and, Bool.and_true, Bool.false_and, Bool.and_false, Bool.or_true, Bool.true_or, Bool.or_false, Bool.false_or, Bool.false_eq_true, Bool.true_eq_false, if_true, if_false, ↓reduceIte], by simp only [wgOk, c_2, ec_p9, c_3, c_4, decide_true, decide_false, Bool.not_true, Bool.not_false, Bool.true_and, Bool.and_true, Bool.false_and, Bool.and_false, Bool.or_true, Bool.true_or, Bool.or_false, Bool.false_or, Bool.false_eq_true, Bool.true_eq_false, if_true, if_false, ↓reduceIte]⟩) dX5_weigh_38
      · skip
        refine lv_iconst (v := nI 0) hx hb dX5_weigh_25 (by decide) ?_
        exact ct_zret (S := S) (v := nI 0) hx hb hr hlocks hK (by first | decide | exact nb_z _) hw (⟨by simp only [bI, wgOk, c_2, ec_p9, c_3, c_4, decide_true, decide_false, Bool.not_true, Bool.not_false, Bool.true_and, Bool.and_true, Bool.false_and, Bool.and_false, Bool.or_true, Bool.true_or, Bool.or_false, Bool.false_or, Bool.false_eq_true, Bool.true_eq_false, if_true, if_false, ↓reduceIte], by simp only [wgOk, c_2, ec_p9, c_3, c_4, decide_true, decide_false, Bool.not_true, Bool.not_false, Bool.true_and, Bool.and_true, Bool.false_and, Bool.and_false, Bool.or_true, Bool.true_or, Bool.or_false, Bool.false_or, Bool.false_eq_true, Bool.true_eq_false, if_true, if_false, ↓reduceIte]⟩) dX5_weigh_26

set_option maxHeartbeats 4000000 in
set_option maxRecDepth 100000 in
theorem kX5_patient (l : Launch) (dC : Nat → ClassId) (dI : Nat → Nat → Nat) (ca : Nat → ClassId) (ad : Nat → Nat) (S : sSt) (pp : Int32) (b0 : Bool) : ct_I l yX5_patient (Cond.code yX5_patient cX5_patient 3 (some .boolean) :: wa_T) ({ frames := 2, cells := 0, slots := 0, locals := 41 } : Room) (dC, dI) vwCl (tyl ca) (wc ca ad) S [.ref (ad 0), .int pp, .int (bI b0)] (fun r S2 => r = bI (ptOk S pp b0) ∧ S2 = (if ptOk S pp b0 = true then sI S 7 pp.toNatClampNeg (bI b0) else S)) := by
  refine ct_ofI (by decide) (Nat.le_of_ble_eq_true rfl) ?_
  intro p e s m below meth c A ls hx hb hr hml hts hown hlocks hK hA hw hl
  have hl : lv_has ls 3 [(0, .ref (ad 0)), (1, .int pp), (2, .int (bI b0))] := hl
  refine lv_aload_n hx hb dX5_patient_0 rfl (lv_at hl 0 rfl) ?_
  refine wo_get hx hb hts inX5 hown hK hw 0 rfl rfl 0 (by decide) (hts _ wd_166) (fun _ h9 => h9) rfl dX5_patient_1 ?_
  refine lv_iload_n hx hb dX5_patient_4 rfl (lv_at hl 1 rfl) ?_
  refine wo_vI (As := [.int pp]) (rest := []) (kX1_isWell l dC dI ca ad S pp) ⟨hx, hb, hml, hown, hts⟩ (cwV 1 hts (wa_gV wd_192 wd_193 wd_194 wd_2 wd_195) rfl rfl rfl (by decide +kernel) ⟨Nat.le_of_ble_eq_true rfl, Nat.le_of_ble_eq_true rfl⟩) hK hw hA 1 rfl rfl rfl rfl hl.1 rfl (Nat.le_of_ble_eq_true rfl) dX5_patient_5 ⟨Nat.zero_le _, Nat.zero_le _⟩ (fun r_1 S_1 H locs hp_1 hw => ?_)
  have e9 := hp_1.1.symm
  subst e9
  have e9 := hp_1.2.symm
  subst e9
  refine lv_if_eq (tgt := 24) hx hb dX5_patient_8 (by decide) (fun c_2 => ?_) (fun c_2 => ?_)
  · skip
    have c_2 : wl S pp = false := nb_0 c_2
    refine lv_iconst (v := nI 0) hx hb dX5_patient_24 (by decide) ?_
    exact ct_zret (S := S) (v := nI 0) hx hb hr hlocks hK (by first | decide | exact nb_z _) hw (⟨by simp only [ptOk, c_2, decide_true, decide_false, Bool.not_true, Bool.not_false, Bool.true_and, Bool.and_true, Bool.false_and, Bool.and_false, Bool.or_true, Bool.true_or, Bool.or_false, Bool.false_or, Bool.false_eq_true, Bool.true_eq_false, if_true, if_false, ↓reduceIte]; rfl, by simp only [ptOk, c_2, decide_true, decide_false, Bool.not_true, Bool.not_false, Bool.true_and, Bool.and_true, Bool.false_and, Bool.and_false, Bool.or_true, Bool.true_or, Bool.or_false, Bool.false_or, Bool.false_eq_true, Bool.true_eq_false, if_true, if_false, ↓reduceIte]⟩) dX5_patient_25
  · skip
    have c_2 : wl S pp = true := nb_1 c_2
    obtain ⟨p9, hp9, rfl⟩ := wl_n c_2
    have ec_p9 := nI_clamp (n := p9) (by omega)
    refine lv_aload_n hx hb dX5_patient_11 rfl (lv_at hl 0 rfl) ?_
    refine wo_get hx hb hts inX5 hown hK hw 0 rfl rfl 0 (by decide) (hts _ wd_166) (fun _ h9 => h9) rfl dX5_patient_12 ?_
    refine wo_get hx hb hts inX1 hown hK hw 1 rfl rfl 1 (by decide) (hts _ wd_38) (fun _ h9 => h9) rfl dX5_patient_15 ?_
    refine lv_iload_n hx hb dX5_patient_18 rfl (lv_at hl 1 rfl) ?_
    refine wo_zald hx hb hK hw 7 2 rfl rfl p9 rfl (by first | assumption | omega) (by decide) dX5_patient_19 ?_
    refine lv_iload_n hx hb dX5_patient_20 rfl (lv_at hl 2 rfl) ?_
    refine lv_icmp_ne (tgt := 26) hx hb dX5_patient_21 (by decide) (fun c_3 => ?_) (fun c_3 => ?_)
    · skip
      refine lv_aload_n hx hb dX5_patient_26 rfl (lv_at hl 0 rfl) ?_
      refine wo_get hx hb hts inX5 hown hK hw 0 rfl rfl 0 (by decide) (hts _ wd_166) (fun _ h9 => h9) rfl dX5_patient_27 ?_
      refine wo_get hx hb hts inX1 hown hK hw 1 rfl rfl 1 (by decide) (hts _ wd_38) (fun _ h9 => h9) rfl dX5_patient_30 ?_
      refine lv_iload_n hx hb dX5_patient_33 rfl (lv_at hl 1 rfl) ?_
      refine lv_iload_n hx hb dX5_patient_34 rfl (lv_at hl 2 rfl) ?_
      refine wo_zast hx hb hK hw 7 2 rfl rfl p9 rfl (by first | assumption | omega) (by decide) (by first | decide | assumption | exact nb_v _) (se_7 ca ad S p9 (bI b0)) dX5_patient_35 (fun H locs hw => ?_)
      refine lv_iconst (v := nI 1) hx hb dX5_patient_36 (by decide) ?_
      exact ct_zret (S := sI S 7 p9 (bI b0)) (v := nI 1) hx hb hr hlocks hK (by first | decide | exact nb_z _) hw (⟨by simp only [ptOk, c_2, ec_p9, c_3, decide_true, decide_false, Bool.not_true, Bool.not_false, Bool.true_and, Bool.and_true, Bool.false_and, Bool.and_false, Bool.or_true, Bool.true_or, Bool.or_false, Bool.false_or, Bool.false_eq_true, Bool.true_eq_false, if_true, if_false, ↓reduceIte]; rfl, by simp only [ptOk, c_2, ec_p9, c_3, decide_true, decide_false, Bool.not_true, Bool.not_false, Bool.true_and, Bool.and_true, Bool.false_and, Bool.and_false, Bool.or_true, Bool.true_or, Bool.or_false, Bool.false_or, Bool.false_eq_true, Bool.true_eq_false, if_true, if_false, ↓reduceIte]⟩) dX5_patient_37
    · skip
      refine lv_iconst (v := nI 0) hx hb dX5_patient_24 (by decide) ?_
      exact ct_zret (S := S) (v := nI 0) hx hb hr hlocks hK (by first | decide | exact nb_z _) hw (⟨by simp only [ptOk, c_2, ec_p9, c_3, decide_true, decide_false, Bool.not_true, Bool.not_false, Bool.true_and, Bool.and_true, Bool.false_and, Bool.and_false, Bool.or_true, Bool.true_or, Bool.or_false, Bool.false_or, Bool.false_eq_true, Bool.true_eq_false, if_true, if_false, ↓reduceIte]; rfl, by simp only [ptOk, c_2, ec_p9, c_3, decide_true, decide_false, Bool.not_true, Bool.not_false, Bool.true_and, Bool.and_true, Bool.false_and, Bool.and_false, Bool.or_true, Bool.true_or, Bool.or_false, Bool.false_or, Bool.false_eq_true, Bool.true_eq_false, if_true, if_false, ↓reduceIte]⟩) dX5_patient_25

set_option maxHeartbeats 4000000 in
set_option maxRecDepth 100000 in
theorem kX5_take (l : Launch) (dC : Nat → ClassId) (dI : Nat → Nat → Nat) (ca : Nat → ClassId) (ad : Nat → Nat) (S : sSt) (bb : Int32) (pp : Int32) (vv : Int64) (nb : Nat) (nr : Nat) (hb6 : nb ≤ 6) (hr2 : nr ≤ 200) (hri : RI nb nr S) : ct_I l yX5_take (Cond.code yX5_take cX5_take 5 (some .int) :: wa_T) ({ frames := 2, cells := 0, slots := 0, locals := 51 } : Room) (dC, dI) vwCl (tyl ca) (wc ca ad) S [.ref (ad 0), .int bb, .int pp, .long vv] (fun r S2 => r = (tkF S bb pp vv).1 ∧ S2 = (tkF S bb pp vv).2) := by
  refine ct_ofI (by decide) (Nat.le_of_ble_eq_true rfl) ?_
  intro p e s m below meth c A ls hx hb hr hml hts hown hlocks hK hA hw hl
  have hl : lv_has ls 5 [(0, .ref (ad 0)), (1, .int bb), (2, .int pp), (3, .long vv)] := hl
  refine lv_aload_n hx hb dX5_take_0 rfl (lv_at hl 0 rfl) ?_
  refine wo_get hx hb hts inX5 hown hK hw 0 rfl rfl 1 (by decide) (hts _ wd_167) (fun _ h9 => h9) rfl dX5_take_1 ?_
  refine lv_iload_n hx hb dX5_take_4 rfl (lv_at hl 1 rfl) ?_
  refine wo_vI (As := [.int bb]) (rest := []) (kX0_has l dC dI ca ad S bb) ⟨hx, hb, hml, hown, hts⟩ (cwV 1 hts (wa_gV wd_208 wd_209 wd_210 wd_4 wd_211) rfl rfl rfl (by decide +kernel) ⟨Nat.le_of_ble_eq_true rfl, Nat.le_of_ble_eq_true rfl⟩) hK hw hA 2 rfl rfl rfl rfl hl.1 rfl (Nat.le_of_ble_eq_true rfl) dX5_take_5 ⟨Nat.zero_le _, Nat.zero_le _⟩ (fun r_1 S_1 H locs hp_1 hw => ?_)
  have e9 := hp_1.1.symm
  subst e9
  have e9 := hp_1.2.symm
  subst e9
  refine lv_if_eq (tgt := 44) hx hb dX5_take_8 (by decide) (fun c_2 => ?_) (fun c_2 => ?_)
  · skip
    have c_2 : hbd S bb = false := nb_0 c_2
    refine lv_iconst (v := (-1)) hx hb dX5_take_44 (by decide) ?_
    exact ct_iret (S := S) (v := (-1)) hx hb hr hlocks hK hw (⟨by simp only [tkF, tkG, tkR, dnS, rfS, c_2, decide_true, decide_false, Bool.not_true, Bool.not_false, Bool.true_and, Bool.and_true, Bool.false_and, Bool.and_false, Bool.or_true, Bool.true_or, Bool.or_false, Bool.false_or, Bool.false_eq_true, Bool.true_eq_false, if_true, if_false, ↓reduceIte], by simp only [tkF, tkG, tkR, dnS, rfS, c_2, decide_true, decide_false, Bool.not_true, Bool.not_false, Bool.true_and, Bool.and_true, Bool.false_and, Bool.and_false, Bool.or_true, Bool.true_or, Bool.or_false, Bool.false_or, Bool.false_eq_true, Bool.true_eq_false, if_true, if_false, ↓reduceIte]⟩) dX5_take_45
  · skip
    have c_2 : hbd S bb = true := nb_1 c_2
    obtain ⟨b9, hb9, rfl⟩ := hbd_n hri.2.1 hb6 c_2
    have ec_b9 := nI_clamp (n := b9) (by omega)
    refine lv_aload_n hx hb dX5_take_11 rfl (lv_at hl 0 rfl) ?_
    refine wo_get hx hb hts inX5 hown hK hw 0 rfl rfl 0 (by decide) (hts _ wd_166) (fun _ h9 => h9) rfl dX5_take_12 ?_
    refine lv_iload_n hx hb dX5_take_15 rfl (lv_at hl 2 rfl) ?_
    refine wo_vI (As := [.int pp]) (rest := []) (kX1_isWell l dC dI ca ad S pp) ⟨hx, hb, hml, hown, hts⟩ (cwV 1 hts (wa_gV wd_192 wd_193 wd_194 wd_2 wd_195) rfl rfl rfl (by decide +kernel) ⟨Nat.le_of_ble_eq_true rfl, Nat.le_of_ble_eq_true rfl⟩) hK hw hA 1 rfl rfl rfl rfl hl.1 rfl (Nat.le_of_ble_eq_true rfl) dX5_take_16 ⟨Nat.zero_le _, Nat.zero_le _⟩ (fun r_3 S_3 H locs hp_3 hw => ?_)
    have e9 := hp_3.1.symm
    subst e9
    have e9 := hp_3.2.symm
    subst e9
    refine lv_if_eq (tgt := 44) hx hb dX5_take_19 (by decide) (fun c_4 => ?_) (fun c_4 => ?_)
    · skip
      have c_4 : wl S pp = false := nb_0 c_4
      refine lv_iconst (v := (-1)) hx hb dX5_take_44 (by decide) ?_
      exact ct_iret (S := S) (v := (-1)) hx hb hr hlocks hK hw (⟨by simp only [tkF, tkG, tkR, dnS, rfS, c_2, ec_b9, c_4, decide_true, decide_false, Bool.not_true, Bool.not_false, Bool.true_and, Bool.and_true, Bool.false_and, Bool.and_false, Bool.or_true, Bool.true_or, Bool.or_false, Bool.false_or, Bool.false_eq_true, Bool.true_eq_false, if_true, if_false, ↓reduceIte], by simp only [tkF, tkG, tkR, dnS, rfS, c_2, ec_b9, c_4, decide_true, decide_false, Bool.not_true, Bool.not_false, Bool.true_and, Bool.and_true, Bool.false_and, Bool.and_false, Bool.or_true, Bool.true_or, Bool.or_false, Bool.false_or, Bool.false_eq_true, Bool.true_eq_false, if_true, if_false, ↓reduceIte]⟩) dX5_take_45
    · skip
      have c_4 : wl S pp = true := nb_1 c_4
      obtain ⟨p9, hp9, rfl⟩ := wl_n c_4
      have ec_p9 := nI_clamp (n := p9) (by omega)
      refine lv_lload_n hx hb dX5_take_22 rfl (lv_at hl 3 rfl) ?_
      refine lv_lconst (v := 0) hx hb dX5_take_23 (by decide) ?_
      refine lc_eq (tgt := 44) hx hb dX5_take_24 dX5_take_25 (by decide) (fun c_5 => ?_) (fun c_5 => ?_)
      · skip
        refine lv_iconst (v := (-1)) hx hb dX5_take_44 (by decide) ?_
        exact ct_iret (S := S) (v := (-1)) hx hb hr hlocks hK hw (⟨by simp only [tkF, tkG, tkR, dnS, rfS, c_2, ec_b9, c_4, ec_p9, c_5, decide_true, decide_false, Bool.not_true, Bool.not_false, Bool.true_and, Bool.and_true, Bool.false_and, Bool.and_false, Bool.or_true, Bool.true_or, Bool.or_false, Bool.false_or, Bool.false_eq_true, Bool.true_eq_false, if_true, if_false, ↓reduceIte], by simp only [tkF, tkG, tkR, dnS, rfS, c_2, ec_b9, c_4, ec_p9, c_5, decide_true, decide_false, Bool.not_true, Bool.not_false, Bool.true_and, Bool.and_true, Bool.false_and, Bool.and_false, Bool.or_true, Bool.true_or, Bool.or_false, Bool.false_or, Bool.false_eq_true, Bool.true_eq_false, if_true, if_false, ↓reduceIte]⟩) dX5_take_45
      · skip
        refine lv_lload_n hx hb dX5_take_28 rfl (lv_at hl 3 rfl) ?_
        refine lv_ldc2 hx hb hown (hts _ wd_212) dX5_take_29 ?_
        refine lc_lt (tgt := 44) hx hb dX5_take_32 dX5_take_33 (by decide) (fun c_6 => ?_) (fun c_6 => ?_)
        · skip
          refine lv_iconst (v := (-1)) hx hb dX5_take_44 (by decide) ?_
          exact ct_iret (S := S) (v := (-1)) hx hb hr hlocks hK hw (⟨by simp only [tkF, tkG, tkR, dnS, rfS, c_2, ec_b9, c_4, ec_p9, c_5, c_6, decide_true, decide_false, Bool.not_true, Bool.not_false, Bool.true_and, Bool.and_true, Bool.false_and, Bool.and_false, Bool.or_true, Bool.true_or, Bool.or_false, Bool.false_or, Bool.false_eq_true, Bool.true_eq_false, if_true, if_false, ↓reduceIte], by simp only [tkF, tkG, tkR, dnS, rfS, c_2, ec_b9, c_4, ec_p9, c_5, c_6, decide_true, decide_false, Bool.not_true, Bool.not_false, Bool.true_and, Bool.and_true, Bool.false_and, Bool.and_false, Bool.or_true, Bool.true_or, Bool.or_false, Bool.false_or, Bool.false_eq_true, Bool.true_eq_false, if_true, if_false, ↓reduceIte]⟩) dX5_take_45
        · skip
          refine lv_lload_n hx hb dX5_take_36 rfl (lv_at hl 3 rfl) ?_
          refine lv_ldc2 hx hb hown (hts _ wd_213) dX5_take_37 ?_
          refine lc_le (tgt := 46) hx hb dX5_take_40 dX5_take_41 (by decide) (fun c_7 => ?_) (fun c_7 => ?_)
          · skip
            refine lv_aload_n hx hb dX5_take_46 rfl (lv_at hl 0 rfl) ?_
            refine wo_get hx hb hts inX5 hown hK hw 0 rfl rfl 1 (by decide) (hts _ wd_167) (fun _ h9 => h9) rfl dX5_take_47 ?_
            refine lv_iload_n hx hb dX5_take_50 rfl (lv_at hl 1 rfl) ?_
            refine lv_iload_n hx hb dX5_take_51 rfl (lv_at hl 2 rfl) ?_
            refine lv_lload_n hx hb dX5_take_52 rfl (lv_at hl 3 rfl) ?_
            refine wo_vI (As := [.int (nI b9), .int (nI p9), .long vv]) (rest := []) (kX0_move l dC dI ca ad S b9 p9 vv (by first | assumption | omega) (by first | assumption | omega)) ⟨hx, hb, hml, hown, hts⟩ (cwV 3 hts (wa_gV wd_214 wd_215 wd_216 wd_4 wd_217) rfl rfl rfl (by decide +kernel) ⟨Nat.le_of_ble_eq_true rfl, Nat.le_of_ble_eq_true rfl⟩) hK hw hA 2 rfl rfl rfl rfl hl.1 rfl (Nat.le_of_ble_eq_true rfl) dX5_take_53 ⟨Nat.zero_le _, Nat.zero_le _⟩ (fun r_8 S_8 H locs hp_8 hw => ?_)
            have e9 := hp_8.1.symm
            subst e9
            have e9 := hp_8.2.symm
            subst e9
            refine lv_if_eq (tgt := 71) hx hb dX5_take_56 (by decide) (fun c_9 => ?_) (fun c_9 => ?_)
            · skip
              have c_9 : mvOk S b9 p9 vv = false := nb_0 c_9
              rw [if_neg (by rw [c_9]; decide)] at hw
              obtain ⟨kq, hk8, hq, -⟩ := hri.1 p9 hp9
              have ec_k : (S.1 34 p9).toNatClampNeg = kq := by rw [hq, nI_clamp (by omega)]
              have fk : True := trivial
              refine lv_aload_n hx hb dX5_take_71 rfl (lv_at hl 0 rfl) ?_
              refine wo_get hx hb hts inX5 hown hK hw 0 rfl rfl 0 (by decide) (hts _ wd_166) (fun _ h9 => h9) rfl dX5_take_72 ?_
              refine wo_get hx hb hts inX1 hown hK hw 1 rfl rfl 1 (by decide) (hts _ wd_38) (fun _ h9 => h9) rfl dX5_take_75 ?_
              refine lv_iload_n hx hb dX5_take_78 rfl (lv_at hl 2 rfl) ?_
              refine wo_zald hx hb hK hw 7 2 rfl rfl p9 rfl (by first | assumption | omega) (by decide) dX5_take_79 ?_
              refine lv_if_eq (tgt := 98) hx hb dX5_take_80 (by decide) (fun c_10 => ?_) (fun c_10 => ?_)
              · skip
                refine lv_aload_n hx hb dX5_take_98 rfl (lv_at hl 0 rfl) ?_
                refine lv_dup hx hb dX5_take_99 rfl ?_
                refine wo_get hx hb hts inX5 hown hK hw 0 rfl rfl 6 (by decide) (hts _ wd_172) (fun _ h9 => h9) rfl dX5_take_100 ?_
                refine lv_iconst (v := nI 1) hx hb dX5_take_103 (by decide) ?_
                refine lv_iadd hx hb dX5_take_104 ?_
                refine wo_put (ty := .int) (v := .int ((S.1 0 6) + (nI 1))) hx hb hts inX5 tyX5 tyX5_ok nmX5 hown hK hw 0 rfl rfl 6 (by decide) (hts _ wd_172) (fun _ h9 => h9) rfl (by decide +kernel) rfl rfl (Nat.le_of_ble_eq_true rfl) (sf_0_6 ca ad S ((S.1 0 6) + (nI 1))) dX5_take_105 (fun H locs hw => ?_)
                refine lv_iconst (v := nI 0) hx hb dX5_take_108 (by decide) ?_
                exact ct_iret (S := sI S 0 6 ((S.1 0 6) + (nI 1))) (v := nI 0) hx hb hr hlocks hK hw (⟨by simp only [tkF, tkG, tkR, dnS, rfS, c_2, ec_b9, c_4, ec_p9, c_5, c_6, c_7, c_9, c_10, ec_k, decide_true, decide_false, Bool.not_true, Bool.not_false, Bool.true_and, Bool.and_true, Bool.false_and, Bool.and_false, Bool.or_true, Bool.true_or, Bool.or_false, Bool.false_or, Bool.false_eq_true, Bool.true_eq_false, if_true, if_false, ↓reduceIte], by simp only [tkF, tkG, tkR, dnS, rfS, c_2, ec_b9, c_4, ec_p9, c_5, c_6, c_7, c_9, c_10, ec_k, decide_true, decide_false, Bool.not_true, Bool.not_false, Bool.true_and, Bool.and_true, Bool.false_and, Bool.and_false, Bool.or_true, Bool.true_or, Bool.or_false, Bool.false_or, Bool.false_eq_true, Bool.true_eq_false, if_true, if_false, ↓reduceIte]⟩) dX5_take_109
              · skip
                refine lv_aload_n hx hb dX5_take_83 rfl (lv_at hl 0 rfl) ?_
                refine wo_get hx hb hts inX5 hown hK hw 0 rfl rfl 3 (by decide) (hts _ wd_169) (fun _ h9 => h9) rfl dX5_take_84 ?_
                refine lv_iload_n hx hb dX5_take_87 rfl (lv_at hl 2 rfl) ?_
                refine lv_iload_n hx hb dX5_take_88 rfl (lv_at hl 1 rfl) ?_
                refine lv_lload_n hx hb dX5_take_89 rfl (lv_at hl 3 rfl) ?_
                refine wo_vI (As := [.int (nI p9), .int (nI b9), .long vv]) (rest := []) (kX2_append l dC dI ca ad S p9 b9 vv kq (by first | assumption | omega) (by first | assumption | omega) (by first | assumption | omega)) ⟨hx, hb, hml, hown, hts⟩ (cwV 3 hts (wa_gV wd_229 wd_230 wd_231 wd_6 wd_232) rfl rfl rfl (by decide +kernel) ⟨Nat.le_of_ble_eq_true rfl, Nat.le_of_ble_eq_true rfl⟩) hK hw hA 4 rfl rfl rfl rfl hl.1 rfl (Nat.le_of_ble_eq_true rfl) dX5_take_90 ⟨Nat.zero_le _, Nat.zero_le _⟩ (fun r_11 S_11 H locs hp_11 hw => ?_)
                have e9 := hp_11.1.symm
                subst e9
                have e9 := hp_11.2.symm
                subst e9
                refine lv_if_eq (tgt := 98) hx hb dX5_take_93 (by decide) (fun c_12 => ?_) (fun c_12 => ?_)
                · skip
                  have c_12 : decide (kq < 8) = false := nb_0 c_12
                  have c_12 := of_decide_eq_false c_12
                  rw [if_neg c_12] at hw
                  refine lv_aload_n hx hb dX5_take_98 rfl (lv_at hl 0 rfl) ?_
                  refine lv_dup hx hb dX5_take_99 rfl ?_
                  refine wo_get hx hb hts inX5 hown hK hw 0 rfl rfl 6 (by decide) (hts _ wd_172) (fun _ h9 => h9) rfl dX5_take_100 ?_
                  refine lv_iconst (v := nI 1) hx hb dX5_take_103 (by decide) ?_
                  refine lv_iadd hx hb dX5_take_104 ?_
                  refine wo_put (ty := .int) (v := .int ((S.1 0 6) + (nI 1))) hx hb hts inX5 tyX5 tyX5_ok nmX5 hown hK hw 0 rfl rfl 6 (by decide) (hts _ wd_172) (fun _ h9 => h9) rfl (by decide +kernel) rfl rfl (Nat.le_of_ble_eq_true rfl) (sf_0_6 ca ad S ((S.1 0 6) + (nI 1))) dX5_take_105 (fun H locs hw => ?_)
                  refine lv_iconst (v := nI 0) hx hb dX5_take_108 (by decide) ?_
                  exact ct_iret (S := sI S 0 6 ((S.1 0 6) + (nI 1))) (v := nI 0) hx hb hr hlocks hK hw (⟨by simp only [tkF, tkG, tkR, dnS, rfS, c_2, ec_b9, c_4, ec_p9, c_5, c_6, c_7, c_9, c_10, c_12, ec_k, decide_true, decide_false, Bool.not_true, Bool.not_false, Bool.true_and, Bool.and_true, Bool.false_and, Bool.and_false, Bool.or_true, Bool.true_or, Bool.or_false, Bool.false_or, Bool.false_eq_true, Bool.true_eq_false, if_true, if_false, ↓reduceIte], by simp only [tkF, tkG, tkR, dnS, rfS, c_2, ec_b9, c_4, ec_p9, c_5, c_6, c_7, c_9, c_10, c_12, ec_k, decide_true, decide_false, Bool.not_true, Bool.not_false, Bool.true_and, Bool.and_true, Bool.false_and, Bool.and_false, Bool.or_true, Bool.true_or, Bool.or_false, Bool.false_or, Bool.false_eq_true, Bool.true_eq_false, if_true, if_false, ↓reduceIte]⟩) dX5_take_109
                · skip
                  have c_12 : decide (kq < 8) = true := nb_1 c_12
                  have c_12 := of_decide_eq_true c_12
                  rw [if_pos c_12] at hw
                  refine lv_iconst (v := nI 2) hx hb dX5_take_96 (by decide) ?_
                  exact ct_iret (S := qapp S p9 kq b9 vv) (v := nI 2) hx hb hr hlocks hK hw (⟨by simp only [tkF, tkG, tkR, dnS, rfS, c_2, ec_b9, c_4, ec_p9, c_5, c_6, c_7, c_9, c_10, c_12, ec_k, decide_true, decide_false, Bool.not_true, Bool.not_false, Bool.true_and, Bool.and_true, Bool.false_and, Bool.and_false, Bool.or_true, Bool.true_or, Bool.or_false, Bool.false_or, Bool.false_eq_true, Bool.true_eq_false, if_true, if_false, ↓reduceIte], by simp only [tkF, tkG, tkR, dnS, rfS, c_2, ec_b9, c_4, ec_p9, c_5, c_6, c_7, c_9, c_10, c_12, ec_k, decide_true, decide_false, Bool.not_true, Bool.not_false, Bool.true_and, Bool.and_true, Bool.false_and, Bool.and_false, Bool.or_true, Bool.true_or, Bool.or_false, Bool.false_or, Bool.false_eq_true, Bool.true_eq_false, if_true, if_false, ↓reduceIte]⟩) dX5_take_97
            · skip
              have c_9 : mvOk S b9 p9 vv = true := nb_1 c_9
              rw [if_pos c_9] at hw
              refine lv_aload_n hx hb dX5_take_59 rfl (lv_at hl 0 rfl) ?_
              refine lv_dup hx hb dX5_take_60 rfl ?_
              refine wo_get hx hb hts inX5 hown hK hw 0 rfl rfl 5 (by decide) (hts _ wd_171) (fun _ h9 => h9) rfl dX5_take_61 ?_
              refine lv_iconst (v := nI 1) hx hb dX5_take_64 (by decide) ?_
              refine lv_iadd hx hb dX5_take_65 ?_
              refine wo_put (ty := .int) (v := .int (((mvS S b9 p9 vv).1 0 5) + (nI 1))) hx hb hts inX5 tyX5 tyX5_ok nmX5 hown hK hw 0 rfl rfl 5 (by decide) (hts _ wd_171) (fun _ h9 => h9) rfl (by decide +kernel) rfl rfl (Nat.le_of_ble_eq_true rfl) (sf_0_5 ca ad (mvS S b9 p9 vv) (((mvS S b9 p9 vv).1 0 5) + (nI 1))) dX5_take_66 (fun H locs hw => ?_)
              refine lv_iconst (v := nI 1) hx hb dX5_take_69 (by decide) ?_
              exact ct_iret (S := sI (mvS S b9 p9 vv) 0 5 (((mvS S b9 p9 vv).1 0 5) + (nI 1))) (v := nI 1) hx hb hr hlocks hK hw (⟨by simp only [tkF, tkG, tkR, dnS, rfS, c_2, ec_b9, c_4, ec_p9, c_5, c_6, c_7, c_9, decide_true, decide_false, Bool.not_true, Bool.not_false, Bool.true_and, Bool.and_true, Bool.false_and, Bool.and_false, Bool.or_true, Bool.true_or, Bool.or_false, Bool.false_or, Bool.false_eq_true, Bool.true_eq_false, if_true, if_false, ↓reduceIte], by simp only [tkF, tkG, tkR, dnS, rfS, c_2, ec_b9, c_4, ec_p9, c_5, c_6, c_7, c_9, decide_true, decide_false, Bool.not_true, Bool.not_false, Bool.true_and, Bool.and_true, Bool.false_and, Bool.and_false, Bool.or_true, Bool.true_or, Bool.or_false, Bool.false_or, Bool.false_eq_true, Bool.true_eq_false, if_true, if_false, ↓reduceIte]⟩) dX5_take_70
          · skip
            refine lv_iconst (v := (-1)) hx hb dX5_take_44 (by decide) ?_
            exact ct_iret (S := S) (v := (-1)) hx hb hr hlocks hK hw (⟨by simp only [tkF, tkG, tkR, dnS, rfS, c_2, ec_b9, c_4, ec_p9, c_5, c_6, c_7, decide_true, decide_false, Bool.not_true, Bool.not_false, Bool.true_and, Bool.and_true, Bool.false_and, Bool.and_false, Bool.or_true, Bool.true_or, Bool.or_false, Bool.false_or, Bool.false_eq_true, Bool.true_eq_false, if_true, if_false, ↓reduceIte], by simp only [tkF, tkG, tkR, dnS, rfS, c_2, ec_b9, c_4, ec_p9, c_5, c_6, c_7, decide_true, decide_false, Bool.not_true, Bool.not_false, Bool.true_and, Bool.and_true, Bool.false_and, Bool.and_false, Bool.or_true, Bool.true_or, Bool.or_false, Bool.false_or, Bool.false_eq_true, Bool.true_eq_false, if_true, if_false, ↓reduceIte]⟩) dX5_take_45

set_option maxHeartbeats 4000000 in
set_option maxRecDepth 100000 in
theorem kX5_lend (l : Launch) (dC : Nat → ClassId) (dI : Nat → Nat → Nat) (ca : Nat → ClassId) (ad : Nat → Nat) (S : sSt) (bb : Int32) (sd : Int32) (fr : Int32) (to : Int32) (vv : Int64) (nb : Nat) (nr : Nat) (hb6 : nb ≤ 6) (hr2 : nr ≤ 200) (hri : RI nb nr S) : ct_I l yX5_lend (Cond.code yX5_lend cX5_lend 7 (some .int) :: wa_T) ({ frames := 3, cells := 0, slots := 0, locals := 66 } : Room) (dC, dI) vwCl (tyl ca) (wc ca ad) S [.ref (ad 0), .int bb, .int sd, .int fr, .int to, .long vv] (fun r S2 => r = (ldF S nr bb sd fr to vv).1 ∧ S2 = (ldF S nr bb sd fr to vv).2) := by
  refine ct_ofI (by decide) (Nat.le_of_ble_eq_true rfl) ?_
  intro p e s m below meth c A ls hx hb hr hml hts hown hlocks hK hA hw hl
  have hl : lv_has ls 7 [(0, .ref (ad 0)), (1, .int bb), (2, .int sd), (3, .int fr), (4, .int to), (5, .long vv)] := hl
  refine lv_aload_n hx hb dX5_lend_0 rfl (lv_at hl 0 rfl) ?_
  refine lv_iload_n hx hb dX5_lend_1 rfl (lv_at hl 1 rfl) ?_
  refine lv_iload_n hx hb dX5_lend_2 rfl (lv_at hl 2 rfl) ?_
  refine lv_iload hx hb dX5_lend_3 (lv_at hl 4 rfl) ?_
  refine lv_lload hx hb dX5_lend_5 (lv_at hl 5 rfl) ?_
  refine wo_vI (As := [.int bb, .int sd, .int to, .long vv]) (rest := []) (kX5_canAskFor l dC dI ca ad S bb sd to vv) ⟨hx, hb, hml, hown, hts⟩ (cwV 4 hts (wa_gV wd_237 wd_239 ws_0 wd_1 wd_240) rfl rfl rfl (by decide +kernel) ⟨Nat.le_of_ble_eq_true rfl, Nat.le_of_ble_eq_true rfl⟩) hK hw hA 0 rfl rfl rfl rfl hl.1 rfl (Nat.le_of_ble_eq_true rfl) dX5_lend_7 ⟨Nat.zero_le _, Nat.zero_le _⟩ (fun r_1 S_1 H locs hp_1 hw => ?_)
  have e9 := hp_1.1.symm
  subst e9
  have e9 := hp_1.2.symm
  subst e9
  refine lv_if_eq (tgt := 30) hx hb dX5_lend_10 (by decide) (fun c_2 => ?_) (fun c_2 => ?_)
  · skip
    have c_2 : caf S bb sd to vv = false := nb_0 c_2
    refine lv_iconst (v := (-1)) hx hb dX5_lend_30 (by decide) ?_
    exact ct_iret (S := S) (v := (-1)) hx hb hr hlocks hK hw (⟨by simp only [bI, ldF, sdR, c_2, decide_true, decide_false, Bool.not_true, Bool.not_false, Bool.true_and, Bool.and_true, Bool.false_and, Bool.and_false, Bool.or_true, Bool.true_or, Bool.or_false, Bool.false_or, Bool.false_eq_true, Bool.true_eq_false, if_true, if_false, ↓reduceIte], by simp only [ldF, sdR, c_2, decide_true, decide_false, Bool.not_true, Bool.not_false, Bool.true_and, Bool.and_true, Bool.false_and, Bool.and_false, Bool.or_true, Bool.true_or, Bool.or_false, Bool.false_or, Bool.false_eq_true, Bool.true_eq_false, if_true, if_false, ↓reduceIte]⟩) dX5_lend_31
  · skip
    have c_2 : caf S bb sd to vv = true := nb_1 c_2
    obtain ⟨b9, s9, p9, hb9, hs9, hp9, rfl, rfl, rfl⟩ := caf_n hri.2.1 hb6 c_2
    have ec_b9 := nI_clamp (n := b9) (by omega)
    have ec_s9 := nI_clamp (n := s9) (by omega)
    have ec_p9 := nI_clamp (n := p9) (by omega)
    refine lv_aload_n hx hb dX5_lend_13 rfl (lv_at hl 0 rfl) ?_
    refine wo_get hx hb hts inX5 hown hK hw 0 rfl rfl 0 (by decide) (hts _ wd_166) (fun _ h9 => h9) rfl dX5_lend_14 ?_
    refine lv_iload_n hx hb dX5_lend_17 rfl (lv_at hl 3 rfl) ?_
    refine wo_vI (As := [.int fr]) (rest := []) (kX1_isWell l dC dI ca ad S fr) ⟨hx, hb, hml, hown, hts⟩ (cwV 1 hts (wa_gV wd_192 wd_193 wd_194 wd_2 wd_195) rfl rfl rfl (by decide +kernel) ⟨Nat.le_of_ble_eq_true rfl, Nat.le_of_ble_eq_true rfl⟩) hK hw hA 1 rfl rfl rfl rfl hl.1 rfl (Nat.le_of_ble_eq_true rfl) dX5_lend_18 ⟨Nat.zero_le _, Nat.zero_le _⟩ (fun r_3 S_3 H locs hp_3 hw => ?_)
    have e9 := hp_3.1.symm
    subst e9
    have e9 := hp_3.2.symm
    subst e9
    refine lv_if_eq (tgt := 30) hx hb dX5_lend_21 (by decide) (fun c_4 => ?_) (fun c_4 => ?_)
    · skip
      have c_4 : wl S fr = false := nb_0 c_4
      refine lv_iconst (v := (-1)) hx hb dX5_lend_30 (by decide) ?_
      exact ct_iret (S := S) (v := (-1)) hx hb hr hlocks hK hw (⟨by simp only [bI, ldF, sdR, c_2, ec_b9, ec_s9, ec_p9, c_4, decide_true, decide_false, Bool.not_true, Bool.not_false, Bool.true_and, Bool.and_true, Bool.false_and, Bool.and_false, Bool.or_true, Bool.true_or, Bool.or_false, Bool.false_or, Bool.false_eq_true, Bool.true_eq_false, if_true, if_false, ↓reduceIte], by simp only [ldF, sdR, c_2, ec_b9, ec_s9, ec_p9, c_4, decide_true, decide_false, Bool.not_true, Bool.not_false, Bool.true_and, Bool.and_true, Bool.false_and, Bool.and_false, Bool.or_true, Bool.true_or, Bool.or_false, Bool.false_or, Bool.false_eq_true, Bool.true_eq_false, if_true, if_false, ↓reduceIte]⟩) dX5_lend_31
    · skip
      have c_4 : wl S fr = true := nb_1 c_4
      obtain ⟨f9, hf9, rfl⟩ := wl_n c_4
      have ec_f9 := nI_clamp (n := f9) (by omega)
      refine lv_iload_n hx hb dX5_lend_24 rfl (lv_at hl 3 rfl) ?_
      refine lv_iload hx hb dX5_lend_25 (lv_at hl 4 rfl) ?_
      refine lv_icmp_ne (tgt := 32) hx hb dX5_lend_27 (by decide) (fun c_5 => ?_) (fun c_5 => ?_)
      · skip
        have c_5 : ¬ (f9 = p9) := fun h9 => c_5 ((nI_eq (a := f9) (b := p9) (by omega) (by omega)).mpr h9)
        have cI : ¬ nI f9 = nI p9 := fun h9 => c_5 ((nI_eq (by omega) (by omega)).mp h9)
        refine lv_aload_n hx hb dX5_lend_32 rfl (lv_at hl 0 rfl) ?_
        refine wo_get hx hb hts inX5 hown hK hw 0 rfl rfl 1 (by decide) (hts _ wd_167) (fun _ h9 => h9) rfl dX5_lend_33 ?_
        refine lv_iload_n hx hb dX5_lend_36 rfl (lv_at hl 1 rfl) ?_
        refine lv_iload_n hx hb dX5_lend_37 rfl (lv_at hl 2 rfl) ?_
        refine lv_iload_n hx hb dX5_lend_38 rfl (lv_at hl 3 rfl) ?_
        refine wo_vL (As := [.int (nI b9), .int (nI s9), .int (nI f9)]) (rest := []) (kX0_shareOf l dC dI ca ad S b9 s9 f9 (by first | assumption | omega) (by first | assumption | omega) (by first | assumption | omega)) ⟨hx, hb, hml, hown, hts⟩ (cwV 3 hts (wa_gV wd_244 wd_219 wd_220 wd_4 wd_221) rfl rfl rfl (by decide +kernel) ⟨Nat.le_of_ble_eq_true rfl, Nat.le_of_ble_eq_true rfl⟩) hK hw hA 2 rfl rfl rfl rfl hl.1 rfl (Nat.le_of_ble_eq_true rfl) dX5_lend_39 ⟨Nat.zero_le _, Nat.zero_le _⟩ (fun r_6 S_6 H locs hp_6 hw => ?_)
        have e9 := hp_6.1.symm
        subst e9
        have e9 := hp_6.2.symm
        subst e9
        refine lv_lload hx hb dX5_lend_42 (lv_at hl 5 rfl) ?_
        refine lc_ge (tgt := 50) hx hb dX5_lend_44 dX5_lend_45 (by decide) (fun c_7 => ?_) (fun c_7 => ?_)
        · skip
          refine lv_aload_n hx hb dX5_lend_50 rfl (lv_at hl 0 rfl) ?_
          refine lv_iload_n hx hb dX5_lend_51 rfl (lv_at hl 1 rfl) ?_
          refine lv_iload_n hx hb dX5_lend_52 rfl (lv_at hl 2 rfl) ?_
          refine lv_iload_n hx hb dX5_lend_53 rfl (lv_at hl 3 rfl) ?_
          refine lv_iload hx hb dX5_lend_54 (lv_at hl 4 rfl) ?_
          refine lv_lload hx hb dX5_lend_56 (lv_at hl 5 rfl) ?_
          refine wo_vI (As := [.int (nI b9), .int (nI s9), .int (nI f9), .int (nI p9), .long vv]) (rest := []) (kX5_send l dC dI ca ad S b9 s9 f9 p9 vv nr (by first | assumption | omega) (by first | assumption | omega) (by first | assumption | omega) hr2 hri.2.2) ⟨hx, hb, hml, hown, hts⟩ (cwV 5 hts (wa_gV wd_245 wd_247 ws_1 wd_1 wd_248) rfl rfl rfl (by decide +kernel) ⟨Nat.le_of_ble_eq_true rfl, Nat.le_of_ble_eq_true rfl⟩) hK hw hA 0 rfl rfl rfl rfl hl.1 rfl (Nat.le_of_ble_eq_true rfl) dX5_lend_58 ⟨Nat.zero_le _, Nat.zero_le _⟩ (fun r_8 S_8 H locs hp_8 hw => ?_)
          have e9 := hp_8.1.symm
          subst e9
          have e9 := hp_8.2.symm
          subst e9
          exact ct_iret (S := sendS S nr b9 s9 f9 p9 vv) (v := (if nr < 200 then nI (nr + 1) else nI 0)) hx hb hr hlocks hK hw (⟨by simp only [bI, ldF, sdR, c_2, ec_b9, ec_s9, ec_p9, c_4, ec_f9, cI, c_7, decide_true, decide_false, Bool.not_true, Bool.not_false, Bool.true_and, Bool.and_true, Bool.false_and, Bool.and_false, Bool.or_true, Bool.true_or, Bool.or_false, Bool.false_or, Bool.false_eq_true, Bool.true_eq_false, if_true, if_false, ↓reduceIte], by simp only [ldF, sdR, c_2, ec_b9, ec_s9, ec_p9, c_4, ec_f9, cI, c_7, decide_true, decide_false, Bool.not_true, Bool.not_false, Bool.true_and, Bool.and_true, Bool.false_and, Bool.and_false, Bool.or_true, Bool.true_or, Bool.or_false, Bool.false_or, Bool.false_eq_true, Bool.true_eq_false, if_true, if_false, ↓reduceIte]⟩) dX5_lend_61
        · skip
          refine lv_iconst (v := nI 0) hx hb dX5_lend_48 (by decide) ?_
          exact ct_iret (S := S) (v := nI 0) hx hb hr hlocks hK hw (⟨by simp only [bI, ldF, sdR, c_2, ec_b9, ec_s9, ec_p9, c_4, ec_f9, cI, c_7, decide_true, decide_false, Bool.not_true, Bool.not_false, Bool.true_and, Bool.and_true, Bool.false_and, Bool.and_false, Bool.or_true, Bool.true_or, Bool.or_false, Bool.false_or, Bool.false_eq_true, Bool.true_eq_false, if_true, if_false, ↓reduceIte], by simp only [ldF, sdR, c_2, ec_b9, ec_s9, ec_p9, c_4, ec_f9, cI, c_7, decide_true, decide_false, Bool.not_true, Bool.not_false, Bool.true_and, Bool.and_true, Bool.false_and, Bool.and_false, Bool.or_true, Bool.true_or, Bool.or_false, Bool.false_or, Bool.false_eq_true, Bool.true_eq_false, if_true, if_false, ↓reduceIte]⟩) dX5_lend_49
      · skip
        have c_5 : f9 = p9 := (nI_eq (a := f9) (b := p9) (by omega) (by omega)).mp c_5
        have cI : nI f9 = nI p9 := congrArg nI c_5
        refine lv_iconst (v := (-1)) hx hb dX5_lend_30 (by decide) ?_
        exact ct_iret (S := S) (v := (-1)) hx hb hr hlocks hK hw (⟨by simp only [bI, ldF, sdR, c_2, ec_b9, ec_s9, ec_p9, c_4, ec_f9, cI, decide_true, decide_false, Bool.not_true, Bool.not_false, Bool.true_and, Bool.and_true, Bool.false_and, Bool.and_false, Bool.or_true, Bool.true_or, Bool.or_false, Bool.false_or, Bool.false_eq_true, Bool.true_eq_false, if_true, if_false, ↓reduceIte], by simp only [ldF, sdR, c_2, ec_b9, ec_s9, ec_p9, c_4, ec_f9, cI, decide_true, decide_false, Bool.not_true, Bool.not_false, Bool.true_and, Bool.and_true, Bool.false_and, Bool.and_false, Bool.or_true, Bool.true_or, Bool.or_false, Bool.false_or, Bool.false_eq_true, Bool.true_eq_false, if_true, if_false, ↓reduceIte]⟩) dX5_lend_31

set_option maxHeartbeats 4000000 in
set_option maxRecDepth 100000 in
theorem kX5_ask (l : Launch) (dC : Nat → ClassId) (dI : Nat → Nat → Nat) (ca : Nat → ClassId) (ad : Nat → Nat) (S : sSt) (bb : Int32) (sd : Int32) (pp : Int32) (vv : Int64) (nb : Nat) (nr : Nat) (hb6 : nb ≤ 6) (hr2 : nr ≤ 200) (hri : RI nb nr S) : ct_I l yX5_ask (Cond.code yX5_ask cX5_ask 7 (some .int) :: wa_T) ({ frames := 3, cells := 0, slots := 0, locals := 68 } : Room) (dC, dI) vwCl (tyl ca) (wc ca ad) S [.ref (ad 0), .int bb, .int sd, .int pp, .long vv] (fun r S2 => r = (akF S nr bb sd pp vv).1 ∧ S2 = (akF S nr bb sd pp vv).2) := by
  refine ct_ofI (by decide) (Nat.le_of_ble_eq_true rfl) ?_
  intro p e s m below meth c A ls hx hb hr hml hts hown hlocks hK hA hw hl
  have hl : lv_has ls 7 [(0, .ref (ad 0)), (1, .int bb), (2, .int sd), (3, .int pp), (4, .long vv)] := hl
  refine lv_aload_n hx hb dX5_ask_0 rfl (lv_at hl 0 rfl) ?_
  refine lv_iload_n hx hb dX5_ask_1 rfl (lv_at hl 1 rfl) ?_
  refine lv_iload_n hx hb dX5_ask_2 rfl (lv_at hl 2 rfl) ?_
  refine lv_iload_n hx hb dX5_ask_3 rfl (lv_at hl 3 rfl) ?_
  refine lv_lload hx hb dX5_ask_4 (lv_at hl 4 rfl) ?_
  refine wo_vI (As := [.int bb, .int sd, .int pp, .long vv]) (rest := []) (kX5_canAskFor l dC dI ca ad S bb sd pp vv) ⟨hx, hb, hml, hown, hts⟩ (cwV 4 hts (wa_gV wd_237 wd_239 ws_0 wd_1 wd_240) rfl rfl rfl (by decide +kernel) ⟨Nat.le_of_ble_eq_true rfl, Nat.le_of_ble_eq_true rfl⟩) hK hw hA 0 rfl rfl rfl rfl hl.1 rfl (Nat.le_of_ble_eq_true rfl) dX5_ask_6 ⟨Nat.zero_le _, Nat.zero_le _⟩ (fun r_1 S_1 H locs hp_1 hw => ?_)
  have e9 := hp_1.1.symm
  subst e9
  have e9 := hp_1.2.symm
  subst e9
  refine lv_if_ne (tgt := 14) hx hb dX5_ask_9 (by decide) (fun c_2 => ?_) (fun c_2 => ?_)
  · skip
    have c_2 : caf S bb sd pp vv = true := nb_1 c_2
    obtain ⟨b9, s9, p9, hb9, hs9, hp9, rfl, rfl, rfl⟩ := caf_n hri.2.1 hb6 c_2
    have ec_b9 := nI_clamp (n := b9) (by omega)
    have ec_s9 := nI_clamp (n := s9) (by omega)
    have ec_p9 := nI_clamp (n := p9) (by omega)
    refine lv_aload_n hx hb dX5_ask_14 rfl (lv_at hl 0 rfl) ?_
    refine lv_iload_n hx hb dX5_ask_15 rfl (lv_at hl 1 rfl) ?_
    refine lv_iload_n hx hb dX5_ask_16 rfl (lv_at hl 2 rfl) ?_
    refine lv_iload_n hx hb dX5_ask_17 rfl (lv_at hl 3 rfl) ?_
    refine wo_vI (As := [.int (nI b9), .int (nI s9), .int (nI p9)]) (rest := []) (kX5_richestOther l dC dI ca ad S b9 s9 p9 (by first | assumption | omega) (by first | assumption | omega) (by first | assumption | omega)) ⟨hx, hb, hml, hown, hts⟩ (cwV 3 hts (wa_gV wd_258 wd_260 ws_2 wd_1 wd_261) rfl rfl rfl (by decide +kernel) ⟨Nat.le_of_ble_eq_true rfl, Nat.le_of_ble_eq_true rfl⟩) hK hw hA 0 rfl rfl rfl rfl hl.1 rfl (Nat.le_of_ble_eq_true rfl) dX5_ask_18 ⟨Nat.zero_le _, Nat.zero_le _⟩ (fun r_3 S_3 H locs hp_3 hw => ?_)
    have e9 := hp_3.1.symm
    subst e9
    have e9 := hp_3.2.symm
    subst e9
    refine lv_istore (lv' := [(6, .int ((rich S (b9 * 2 + s9) p9 6).1)), (0, .ref (ad 0)), (1, .int (nI b9)), (2, .int (nI s9)), (3, .int (nI p9)), (4, .long vv)]) hx hb dX5_ask_21 hl (by decide) rfl (fun ls hl => ?_)
    refine lv_iload hx hb dX5_ask_23 (lv_at hl 0 rfl) ?_
    refine lv_iconst (v := (-1)) hx hb dX5_ask_25 (by decide) ?_
    refine lv_icmp_ne (tgt := 31) hx hb dX5_ask_26 (by decide) (fun c_4 => ?_) (fun c_4 => ?_)
    · skip
      obtain ⟨q9, hq9, eq9⟩ := (rich_n S (b9 * 2 + s9) p9 6).resolve_left c_4
      have ec_q9 := nI_clamp (n := q9) (by omega)
      rw [eq9] at hl
      have nq9 : ¬ nI q9 = (-1) := eq9 ▸ c_4
      refine lv_aload_n hx hb dX5_ask_31 rfl (lv_at hl 1 rfl) ?_
      refine lv_iload_n hx hb dX5_ask_32 rfl (lv_at hl 2 rfl) ?_
      refine lv_iload_n hx hb dX5_ask_33 rfl (lv_at hl 3 rfl) ?_
      refine lv_iload hx hb dX5_ask_34 (lv_at hl 0 rfl) ?_
      refine lv_iload_n hx hb dX5_ask_36 rfl (lv_at hl 4 rfl) ?_
      refine lv_lload hx hb dX5_ask_37 (lv_at hl 5 rfl) ?_
      refine lv_aload_n hx hb dX5_ask_39 rfl (lv_at hl 1 rfl) ?_
      refine wo_get hx hb hts inX5 hown hK hw 0 rfl rfl 1 (by decide) (hts _ wd_167) (fun _ h9 => h9) rfl dX5_ask_40 ?_
      refine lv_iload_n hx hb dX5_ask_43 rfl (lv_at hl 2 rfl) ?_
      refine lv_iload_n hx hb dX5_ask_44 rfl (lv_at hl 3 rfl) ?_
      refine lv_iload hx hb dX5_ask_45 (lv_at hl 0 rfl) ?_
      refine wo_vL (As := [.int (nI b9), .int (nI s9), .int (nI q9)]) (rest := [.long vv, .int (nI p9), .int (nI q9), .int (nI s9), .int (nI b9), .ref (ad 0)]) (kX0_shareOf l dC dI ca ad S b9 s9 q9 (by first | assumption | omega) (by first | assumption | omega) (by first | assumption | omega)) ⟨hx, hb, hml, hown, hts⟩ (cwV 3 hts (wa_gV wd_244 wd_219 wd_220 wd_4 wd_221) rfl rfl rfl (by decide +kernel) ⟨Nat.le_of_ble_eq_true rfl, Nat.le_of_ble_eq_true rfl⟩) hK hw hA 2 rfl rfl rfl rfl hl.1 rfl (Nat.le_of_ble_eq_true rfl) dX5_ask_47 ⟨Nat.zero_le _, Nat.zero_le _⟩ (fun r_5 S_5 H locs hp_5 hw => ?_)
      have e9 := hp_5.1.symm
      subst e9
      have e9 := hp_5.2.symm
      subst e9
      refine va_mmin_long hx hb (hml.trans hl.1.symm) hown (hts _ wd_262) (hts _ wd_263) (hts _ wd_15) (hts _ wd_264) (Nat.le_of_ble_eq_true rfl) (Nat.le_of_ble_eq_true rfl) (Nat.zero_le _) (Nat.zero_le _) dX5_ask_50 ?_
      refine wo_vI (As := [.int (nI b9), .int (nI s9), .int (nI q9), .int (nI p9), .long (if (S.2 (14 + (b9 * 2 + s9)) q9) < vv then (S.2 (14 + (b9 * 2 + s9)) q9) else vv)]) (rest := []) (kX5_send l dC dI ca ad S b9 s9 q9 p9 (if (S.2 (14 + (b9 * 2 + s9)) q9) < vv then (S.2 (14 + (b9 * 2 + s9)) q9) else vv) nr (by first | assumption | omega) (by first | assumption | omega) (by first | assumption | omega) hr2 hri.2.2) ⟨hx, hb, hml, hown, hts⟩ (cwV 5 hts (wa_gV wd_245 wd_247 ws_1 wd_1 wd_248) rfl rfl rfl (by decide +kernel) ⟨Nat.le_of_ble_eq_true rfl, Nat.le_of_ble_eq_true rfl⟩) hK hw hA 0 rfl rfl rfl rfl hl.1 rfl (Nat.le_of_ble_eq_true rfl) dX5_ask_53 ⟨Nat.zero_le _, Nat.zero_le _⟩ (fun r_6 S_6 H locs hp_6 hw => ?_)
      have e9 := hp_6.1.symm
      subst e9
      have e9 := hp_6.2.symm
      subst e9
      exact ct_iret (S := sendS S nr b9 s9 q9 p9 (if (S.2 (14 + (b9 * 2 + s9)) q9) < vv then (S.2 (14 + (b9 * 2 + s9)) q9) else vv)) (v := (if nr < 200 then nI (nr + 1) else nI 0)) hx hb hr hlocks hK hw (⟨by simp only [akF, akR, sdR, c_2, ec_b9, ec_s9, ec_p9, ec_q9, eq9, nq9, decide_true, decide_false, Bool.not_true, Bool.not_false, Bool.true_and, Bool.and_true, Bool.false_and, Bool.and_false, Bool.or_true, Bool.true_or, Bool.or_false, Bool.false_or, Bool.false_eq_true, Bool.true_eq_false, if_true, if_false, ↓reduceIte], by simp only [akF, akR, sdR, c_2, ec_b9, ec_s9, ec_p9, ec_q9, eq9, nq9, decide_true, decide_false, Bool.not_true, Bool.not_false, Bool.true_and, Bool.and_true, Bool.false_and, Bool.and_false, Bool.or_true, Bool.true_or, Bool.or_false, Bool.false_or, Bool.false_eq_true, Bool.true_eq_false, if_true, if_false, ↓reduceIte]⟩) dX5_ask_56
    · skip
      refine lv_iconst (v := nI 0) hx hb dX5_ask_29 (by decide) ?_
      exact ct_iret (S := S) (v := nI 0) hx hb hr hlocks hK hw (⟨by simp only [akF, akR, sdR, c_2, ec_b9, ec_s9, ec_p9, c_4, decide_true, decide_false, Bool.not_true, Bool.not_false, Bool.true_and, Bool.and_true, Bool.false_and, Bool.and_false, Bool.or_true, Bool.true_or, Bool.or_false, Bool.false_or, Bool.false_eq_true, Bool.true_eq_false, if_true, if_false, ↓reduceIte], by simp only [akF, akR, sdR, c_2, ec_b9, ec_s9, ec_p9, c_4, decide_true, decide_false, Bool.not_true, Bool.not_false, Bool.true_and, Bool.and_true, Bool.false_and, Bool.and_false, Bool.or_true, Bool.true_or, Bool.or_false, Bool.false_or, Bool.false_eq_true, Bool.true_eq_false, if_true, if_false, ↓reduceIte]⟩) dX5_ask_30
  · skip
    have c_2 : caf S bb sd pp vv = false := nb_0 c_2
    refine lv_iconst (v := (-1)) hx hb dX5_ask_12 (by decide) ?_
    exact ct_iret (S := S) (v := (-1)) hx hb hr hlocks hK hw (⟨by simp only [akF, akR, sdR, c_2, decide_true, decide_false, Bool.not_true, Bool.not_false, Bool.true_and, Bool.and_true, Bool.false_and, Bool.and_false, Bool.or_true, Bool.true_or, Bool.or_false, Bool.false_or, Bool.false_eq_true, Bool.true_eq_false, if_true, if_false, ↓reduceIte], by simp only [akF, akR, sdR, c_2, decide_true, decide_false, Bool.not_true, Bool.not_false, Bool.true_and, Bool.and_true, Bool.false_and, Bool.and_false, Bool.or_true, Bool.true_or, Bool.or_false, Bool.false_or, Bool.false_eq_true, Bool.true_eq_false, if_true, if_false, ↓reduceIte]⟩) dX5_ask_13
