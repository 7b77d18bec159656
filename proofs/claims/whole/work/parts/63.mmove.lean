theorem dX6_move_0 : decode cX6_move 0 = .ok (.lload_n 3, 1) := by decide +kernel
theorem dX6_move_1 : decode cX6_move 1 = .ok (.lconst 0, 1) := by decide +kernel
theorem dX6_move_2 : decode cX6_move 2 = .ok (.lcmp, 1) := by decide +kernel
theorem dX6_move_3 : decode cX6_move 3 = .ok (.ifCond .le 7, 3) := by decide +kernel
theorem dX6_move_6 : decode cX6_move 6 = .ok (.iconst 0, 1) := by decide +kernel
theorem dX6_move_7 : decode cX6_move 7 = .ok (.goto 4, 3) := by decide +kernel
theorem dX6_move_10 : decode cX6_move 10 = .ok (.iconst 1, 1) := by decide +kernel
theorem dX6_move_11 : decode cX6_move 11 = .ok (.istore 5, 2) := by decide +kernel
theorem dX6_move_13 : decode cX6_move 13 = .ok (.lload_n 3, 1) := by decide +kernel
theorem dX6_move_14 : decode cX6_move 14 = .ok (.lconst 0, 1) := by decide +kernel
theorem dX6_move_15 : decode cX6_move 15 = .ok (.lcmp, 1) := by decide +kernel
theorem dX6_move_16 : decode cX6_move 16 = .ok (.ifCond .le 7, 3) := by decide +kernel
theorem dX6_move_19 : decode cX6_move 19 = .ok (.lload_n 3, 1) := by decide +kernel
theorem dX6_move_20 : decode cX6_move 20 = .ok (.goto 5, 3) := by decide +kernel
theorem dX6_move_23 : decode cX6_move 23 = .ok (.lload_n 3, 1) := by decide +kernel
theorem dX6_move_24 : decode cX6_move 24 = .ok (.lneg, 1) := by decide +kernel
theorem dX6_move_25 : decode cX6_move 25 = .ok (.lstore 6, 2) := by decide +kernel
theorem dX6_move_27 : decode cX6_move 27 = .ok (.aload_n 0, 1) := by decide +kernel
theorem dX6_move_28 : decode cX6_move 28 = .ok (.getfield 19, 3) := by decide +kernel
theorem dX6_move_31 : decode cX6_move 31 = .ok (.iload_n 1, 1) := by decide +kernel
theorem dX6_move_32 : decode cX6_move 32 = .ok (.iload 5, 2) := by decide +kernel
theorem dX6_move_34 : decode cX6_move 34 = .ok (.iload_n 2, 1) := by decide +kernel
theorem dX6_move_35 : decode cX6_move 35 = .ok (.invokestatic 111, 3) := by decide +kernel
theorem dX6_move_38 : decode cX6_move 38 = .ok (.laload, 1) := by decide +kernel
theorem dX6_move_39 : decode cX6_move 39 = .ok (.lload 6, 2) := by decide +kernel
theorem dX6_move_41 : decode cX6_move 41 = .ok (.lcmp, 1) := by decide +kernel
theorem dX6_move_42 : decode cX6_move 42 = .ok (.ifCond .ge 5, 3) := by decide +kernel
theorem dX6_move_45 : decode cX6_move 45 = .ok (.iconst 0, 1) := by decide +kernel
theorem dX6_move_46 : decode cX6_move 46 = .ok (.ireturn, 1) := by decide +kernel
theorem dX6_move_47 : decode cX6_move 47 = .ok (.aload_n 0, 1) := by decide +kernel
theorem dX6_move_48 : decode cX6_move 48 = .ok (.getfield 19, 3) := by decide +kernel
theorem dX6_move_51 : decode cX6_move 51 = .ok (.iload_n 1, 1) := by decide +kernel
theorem dX6_move_52 : decode cX6_move 52 = .ok (.iload 5, 2) := by decide +kernel
theorem dX6_move_54 : decode cX6_move 54 = .ok (.iload_n 2, 1) := by decide +kernel
theorem dX6_move_55 : decode cX6_move 55 = .ok (.invokestatic 111, 3) := by decide +kernel
theorem dX6_move_58 : decode cX6_move 58 = .ok (.dup2, 1) := by decide +kernel
theorem dX6_move_59 : decode cX6_move 59 = .ok (.laload, 1) := by decide +kernel
theorem dX6_move_60 : decode cX6_move 60 = .ok (.lload 6, 2) := by decide +kernel
theorem dX6_move_62 : decode cX6_move 62 = .ok (.lsub, 1) := by decide +kernel
theorem dX6_move_63 : decode cX6_move 63 = .ok (.lastore, 1) := by decide +kernel
theorem dX6_move_64 : decode cX6_move 64 = .ok (.aload_n 0, 1) := by decide +kernel
theorem dX6_move_65 : decode cX6_move 65 = .ok (.getfield 19, 3) := by decide +kernel
theorem dX6_move_68 : decode cX6_move 68 = .ok (.iload_n 1, 1) := by decide +kernel
theorem dX6_move_69 : decode cX6_move 69 = .ok (.iconst 1, 1) := by decide +kernel
theorem dX6_move_70 : decode cX6_move 70 = .ok (.iload 5, 2) := by decide +kernel
theorem dX6_move_72 : decode cX6_move 72 = .ok (.isub, 1) := by decide +kernel
theorem dX6_move_73 : decode cX6_move 73 = .ok (.iload_n 2, 1) := by decide +kernel
theorem dX6_move_74 : decode cX6_move 74 = .ok (.invokestatic 111, 3) := by decide +kernel
theorem dX6_move_77 : decode cX6_move 77 = .ok (.dup2, 1) := by decide +kernel
theorem dX6_move_78 : decode cX6_move 78 = .ok (.laload, 1) := by decide +kernel
theorem dX6_move_79 : decode cX6_move 79 = .ok (.lload 6, 2) := by decide +kernel
theorem dX6_move_81 : decode cX6_move 81 = .ok (.ladd, 1) := by decide +kernel
theorem dX6_move_82 : decode cX6_move 82 = .ok (.lastore, 1) := by decide +kernel
theorem dX6_move_83 : decode cX6_move 83 = .ok (.aload_n 0, 1) := by decide +kernel
theorem dX6_move_84 : decode cX6_move 84 = .ok (.getfield 13, 3) := by decide +kernel
theorem dX6_move_87 : decode cX6_move 87 = .ok (.iload_n 1, 1) := by decide +kernel
theorem dX6_move_88 : decode cX6_move 88 = .ok (.dup2, 1) := by decide +kernel
theorem dX6_move_89 : decode cX6_move 89 = .ok (.laload, 1) := by decide +kernel
theorem dX6_move_90 : decode cX6_move 90 = .ok (.lload_n 3, 1) := by decide +kernel
theorem dX6_move_91 : decode cX6_move 91 = .ok (.lsub, 1) := by decide +kernel
theorem dX6_move_92 : decode cX6_move 92 = .ok (.lastore, 1) := by decide +kernel
theorem dX6_move_93 : decode cX6_move 93 = .ok (.aload_n 0, 1) := by decide +kernel
theorem dX6_move_94 : decode cX6_move 94 = .ok (.dup, 1) := by decide +kernel
theorem dX6_move_95 : decode cX6_move 95 = .ok (.getfield 115, 3) := by decide +kernel
theorem dX6_move_98 : decode cX6_move 98 = .ok (.iconst 1, 1) := by decide +kernel
theorem dX6_move_99 : decode cX6_move 99 = .ok (.iadd, 1) := by decide +kernel
theorem dX6_move_100 : decode cX6_move 100 = .ok (.putfield 115, 3) := by decide +kernel
theorem dX6_move_103 : decode cX6_move 103 = .ok (.iconst 1, 1) := by decide +kernel
theorem dX6_move_104 : decode cX6_move 104 = .ok (.ireturn, 1) := by decide +kernel

set_option maxHeartbeats 4000000 in
set_option maxRecDepth 100000 in
theorem kX6_move (l : Launch) (dC : Nat → ClassId) (dI : Nat → Nat → Nat) (ca : Nat → ClassId) (ad : Nat → Nat) (S : sSt) (bb : Nat) (pp : Nat) (vv : Int64) (hb6 : bb < 6) (hp6 : pp < 6) : ct_I l yX6_move (Cond.code yX6_move cX6_move 8 (some .boolean) :: wa_T) ({ frames := 1, cells := 0, slots := 0, locals := 22 } : Room) (dC, dI) vwCl (tyl ca) (wq ca ad) S [.ref (ad 0), .int (nI bb), .int (nI pp), .long vv] (fun r S2 => r = bI (mmvOk S bb pp vv) ∧ S2 = (if mmvOk S bb pp vv = true then mmvS S bb pp vv else S)) := by
  refine ct_ofI (by decide) (Nat.le_of_ble_eq_true rfl) ?_
  intro p e s m below meth c A ls hx hb hr hml hts hown hlocks hK hA hw hl
  have hl : lv_has ls 8 [(0, .ref (ad 0)), (1, .int (nI bb)), (2, .int (nI pp)), (3, .long vv)] := hl
  refine lv_lload_n hx hb dX6_move_0 rfl (lv_at hl 3 rfl) ?_
  refine lv_lconst (v := 0) hx hb dX6_move_1 (by decide) ?_
  refine lc_le (tgt := 10) hx hb dX6_move_2 dX6_move_3 (by decide) (fun c_1 => ?_) (fun c_1 => ?_)
  · skip
    refine lv_iconst (v := nI 1) hx hb dX6_move_10 (by decide) ?_
    refine lv_istore (lv' := [(5, .int (nI 1)), (0, .ref (ad 0)), (1, .int (nI bb)), (2, .int (nI pp)), (3, .long vv)]) hx hb dX6_move_11 hl (by decide) rfl (fun ls hl => ?_)
    refine lv_lload_n hx hb dX6_move_13 rfl (lv_at hl 4 rfl) ?_
    refine lv_lconst (v := 0) hx hb dX6_move_14 (by decide) ?_
    refine lc_le (tgt := 23) hx hb dX6_move_15 dX6_move_16 (by decide) (fun c_2 => ?_) (fun c_2 => ?_)
    · skip
      refine lv_lload_n hx hb dX6_move_23 rfl (lv_at hl 4 rfl) ?_
      refine lv_lneg hx hb dX6_move_24 ?_
      refine lv_lstore (lv' := [(6, .long (-vv)), (5, .int (nI 1)), (0, .ref (ad 0)), (1, .int (nI bb)), (2, .int (nI pp)), (3, .long vv)]) hx hb dX6_move_25 hl (by decide) rfl (fun ls hl => ?_)
      refine lv_aload_n hx hb dX6_move_27 rfl (lv_at hl 2 rfl) ?_
      refine wo_get hx hb hts inX6 hown hK hw 0 rfl rfl 5 (by decide) (hts _ wd_570) (fun _ h9 => h9) rfl dX6_move_28 ?_
      refine lv_iload_n hx hb dX6_move_31 rfl (lv_at hl 3 rfl) ?_
      refine lv_iload hx hb dX6_move_32 (lv_at hl 1 rfl) ?_
      refine lv_iload_n hx hb dX6_move_34 rfl (lv_at hl 4 rfl) ?_
      refine wo_sI (As := [.int (nI bb), .int (nI 1), .int (nI pp)]) (rest := [.ref (ad 4)]) (kX6_at l dC dI ca ad S bb 1 pp) ⟨hx, hb, hml, hown, hts⟩ (va_cwS 3 hts (wa_gS wd_680 wd_681 wd_8 wd_682) rfl rfl rfl (by decide +kernel) ⟨Nat.le_of_ble_eq_true rfl, Nat.le_of_ble_eq_true rfl⟩) hK hw hA rfl hl.1 rfl (Nat.le_of_ble_eq_true rfl) dX6_move_35 ⟨Nat.zero_le _, Nat.zero_le _⟩ (fun r_3 S_3 H locs hp_3 hw => ?_)
      have e9 := hp_3.1.symm
      subst e9
      have e9 := hp_3.2.symm
      subst e9
      refine wo_lald hx hb hK hw 4 1 rfl rfl (12 * bb + 6 * 1 + pp) rfl (by first | assumption | omega) (by decide) dX6_move_38 ?_
      refine lv_lload hx hb dX6_move_39 (lv_at hl 0 rfl) ?_
      refine lc_ge (tgt := 47) hx hb dX6_move_41 dX6_move_42 (by decide) (fun c_4 => ?_) (fun c_4 => ?_)
      · skip
        refine lv_aload_n hx hb dX6_move_47 rfl (lv_at hl 2 rfl) ?_
        refine wo_get hx hb hts inX6 hown hK hw 0 rfl rfl 5 (by decide) (hts _ wd_570) (fun _ h9 => h9) rfl dX6_move_48 ?_
        refine lv_iload_n hx hb dX6_move_51 rfl (lv_at hl 3 rfl) ?_
        refine lv_iload hx hb dX6_move_52 (lv_at hl 1 rfl) ?_
        refine lv_iload_n hx hb dX6_move_54 rfl (lv_at hl 4 rfl) ?_
        refine wo_sI (As := [.int (nI bb), .int (nI 1), .int (nI pp)]) (rest := [.ref (ad 4)]) (kX6_at l dC dI ca ad S bb 1 pp) ⟨hx, hb, hml, hown, hts⟩ (va_cwS 3 hts (wa_gS wd_680 wd_681 wd_8 wd_682) rfl rfl rfl (by decide +kernel) ⟨Nat.le_of_ble_eq_true rfl, Nat.le_of_ble_eq_true rfl⟩) hK hw hA rfl hl.1 rfl (Nat.le_of_ble_eq_true rfl) dX6_move_55 ⟨Nat.zero_le _, Nat.zero_le _⟩ (fun r_5 S_5 H locs hp_5 hw => ?_)
        have e9 := hp_5.1.symm
        subst e9
        have e9 := hp_5.2.symm
        subst e9
        refine lv_dup2_11 hx hb dX6_move_58 rfl rfl ?_
        refine wo_lald hx hb hK hw 4 1 rfl rfl (12 * bb + 6 * 1 + pp) rfl (by first | assumption | omega) (by decide) dX6_move_59 ?_
        refine lv_lload hx hb dX6_move_60 (lv_at hl 0 rfl) ?_
        refine lv_lsub hx hb dX6_move_62 ?_
        refine wo_last hx hb hK hw 4 1 rfl rfl (12 * bb + 6 * 1 + pp) rfl (by first | assumption | omega) (by decide) (sm_4 ca ad S (12 * bb + 6 * 1 + pp) ((S.2 4 (12 * bb + 6 * 1 + pp)) - (-vv))) dX6_move_63 (fun H locs hw => ?_)
        refine lv_aload_n hx hb dX6_move_64 rfl (lv_at hl 2 rfl) ?_
        refine wo_get hx hb hts inX6 hown hK hw 0 rfl rfl 5 (by decide) (hts _ wd_570) (fun _ h9 => h9) rfl dX6_move_65 ?_
        refine lv_iload_n hx hb dX6_move_68 rfl (lv_at hl 3 rfl) ?_
        refine lv_iconst (v := nI 1) hx hb dX6_move_69 (by decide) ?_
        refine lv_iload hx hb dX6_move_70 (lv_at hl 1 rfl) ?_
        refine lv_isub hx hb dX6_move_72 ?_
        refine tp_i (pk_sub (a := 1) (b := 1) (by omega)) ?_
        refine lv_iload_n hx hb dX6_move_73 rfl (lv_at hl 4 rfl) ?_
        refine wo_sI (As := [.int (nI bb), .int (nI (1 - 1)), .int (nI pp)]) (rest := [.ref (ad 4)]) (kX6_at l dC dI ca ad (sL S 4 (12 * bb + 6 * 1 + pp) ((S.2 4 (12 * bb + 6 * 1 + pp)) - (-vv))) bb (1 - 1) pp) ⟨hx, hb, hml, hown, hts⟩ (va_cwS 3 hts (wa_gS wd_680 wd_681 wd_8 wd_682) rfl rfl rfl (by decide +kernel) ⟨Nat.le_of_ble_eq_true rfl, Nat.le_of_ble_eq_true rfl⟩) hK hw hA rfl hl.1 rfl (Nat.le_of_ble_eq_true rfl) dX6_move_74 ⟨Nat.zero_le _, Nat.zero_le _⟩ (fun r_6 S_6 H locs hp_6 hw => ?_)
        have e9 := hp_6.1.symm
        subst e9
        have e9 := hp_6.2.symm
        subst e9
        refine lv_dup2_11 hx hb dX6_move_77 rfl rfl ?_
        refine wo_lald hx hb hK hw 4 1 rfl rfl (12 * bb + 6 * (1 - 1) + pp) rfl (by first | assumption | omega) (by decide) dX6_move_78 ?_
        refine lv_lload hx hb dX6_move_79 (lv_at hl 0 rfl) ?_
        refine lv_ladd hx hb dX6_move_81 ?_
        refine wo_last hx hb hK hw 4 1 rfl rfl (12 * bb + 6 * (1 - 1) + pp) rfl (by first | assumption | omega) (by decide) (sm_4 ca ad (sL S 4 (12 * bb + 6 * 1 + pp) ((S.2 4 (12 * bb + 6 * 1 + pp)) - (-vv))) (12 * bb + 6 * (1 - 1) + pp) (((sL S 4 (12 * bb + 6 * 1 + pp) ((S.2 4 (12 * bb + 6 * 1 + pp)) - (-vv))).2 4 (12 * bb + 6 * (1 - 1) + pp)) + (-vv))) dX6_move_82 (fun H locs hw => ?_)
        refine lv_aload_n hx hb dX6_move_83 rfl (lv_at hl 2 rfl) ?_
        refine wo_get hx hb hts inX6 hown hK hw 0 rfl rfl 3 (by decide) (hts _ wd_568) (fun _ h9 => h9) rfl dX6_move_84 ?_
        refine lv_iload_n hx hb dX6_move_87 rfl (lv_at hl 3 rfl) ?_
        refine lv_dup2_11 hx hb dX6_move_88 rfl rfl ?_
        refine wo_lald hx hb hK hw 2 1 rfl rfl bb rfl (by first | assumption | omega) (by decide) dX6_move_89 ?_
        refine lv_lload_n hx hb dX6_move_90 rfl (lv_at hl 5 rfl) ?_
        refine lv_lsub hx hb dX6_move_91 ?_
        refine wo_last hx hb hK hw 2 1 rfl rfl bb rfl (by first | assumption | omega) (by decide) (sm_2 ca ad (sL (sL S 4 (12 * bb + 6 * 1 + pp) ((S.2 4 (12 * bb + 6 * 1 + pp)) - (-vv))) 4 (12 * bb + 6 * (1 - 1) + pp) (((sL S 4 (12 * bb + 6 * 1 + pp) ((S.2 4 (12 * bb + 6 * 1 + pp)) - (-vv))).2 4 (12 * bb + 6 * (1 - 1) + pp)) + (-vv))) bb (((sL (sL S 4 (12 * bb + 6 * 1 + pp) ((S.2 4 (12 * bb + 6 * 1 + pp)) - (-vv))) 4 (12 * bb + 6 * (1 - 1) + pp) (((sL S 4 (12 * bb + 6 * 1 + pp) ((S.2 4 (12 * bb + 6 * 1 + pp)) - (-vv))).2 4 (12 * bb + 6 * (1 - 1) + pp)) + (-vv))).2 2 bb) - vv)) dX6_move_92 (fun H locs hw => ?_)
        refine lv_aload_n hx hb dX6_move_93 rfl (lv_at hl 2 rfl) ?_
        refine lv_dup hx hb dX6_move_94 rfl ?_
        refine wo_get hx hb hts inX6 hown hK hw 0 rfl rfl 22 (by decide) (hts _ wd_587) (fun _ h9 => h9) rfl dX6_move_95 ?_
        refine lv_iconst (v := nI 1) hx hb dX6_move_98 (by decide) ?_
        refine lv_iadd hx hb dX6_move_99 ?_
        refine wo_put (ty := .int) (v := .int (((sL (sL (sL S 4 (12 * bb + 6 * 1 + pp) ((S.2 4 (12 * bb + 6 * 1 + pp)) - (-vv))) 4 (12 * bb + 6 * (1 - 1) + pp) (((sL S 4 (12 * bb + 6 * 1 + pp) ((S.2 4 (12 * bb + 6 * 1 + pp)) - (-vv))).2 4 (12 * bb + 6 * (1 - 1) + pp)) + (-vv))) 2 bb (((sL (sL S 4 (12 * bb + 6 * 1 + pp) ((S.2 4 (12 * bb + 6 * 1 + pp)) - (-vv))) 4 (12 * bb + 6 * (1 - 1) + pp) (((sL S 4 (12 * bb + 6 * 1 + pp) ((S.2 4 (12 * bb + 6 * 1 + pp)) - (-vv))).2 4 (12 * bb + 6 * (1 - 1) + pp)) + (-vv))).2 2 bb) - vv)).1 0 22) + (nI 1))) hx hb hts inX6 tyX6 tyX6_ok nmX6 hown hK hw 0 rfl rfl 22 (by decide) (hts _ wd_587) (fun _ h9 => h9) rfl (by decide +kernel) rfl rfl (Nat.le_of_ble_eq_true rfl) (sg_22 ca ad (sL (sL (sL S 4 (12 * bb + 6 * 1 + pp) ((S.2 4 (12 * bb + 6 * 1 + pp)) - (-vv))) 4 (12 * bb + 6 * (1 - 1) + pp) (((sL S 4 (12 * bb + 6 * 1 + pp) ((S.2 4 (12 * bb + 6 * 1 + pp)) - (-vv))).2 4 (12 * bb + 6 * (1 - 1) + pp)) + (-vv))) 2 bb (((sL (sL S 4 (12 * bb + 6 * 1 + pp) ((S.2 4 (12 * bb + 6 * 1 + pp)) - (-vv))) 4 (12 * bb + 6 * (1 - 1) + pp) (((sL S 4 (12 * bb + 6 * 1 + pp) ((S.2 4 (12 * bb + 6 * 1 + pp)) - (-vv))).2 4 (12 * bb + 6 * (1 - 1) + pp)) + (-vv))).2 2 bb) - vv)) (((sL (sL (sL S 4 (12 * bb + 6 * 1 + pp) ((S.2 4 (12 * bb + 6 * 1 + pp)) - (-vv))) 4 (12 * bb + 6 * (1 - 1) + pp) (((sL S 4 (12 * bb + 6 * 1 + pp) ((S.2 4 (12 * bb + 6 * 1 + pp)) - (-vv))).2 4 (12 * bb + 6 * (1 - 1) + pp)) + (-vv))) 2 bb (((sL (sL S 4 (12 * bb + 6 * 1 + pp) ((S.2 4 (12 * bb + 6 * 1 + pp)) - (-vv))) 4 (12 * bb + 6 * (1 - 1) + pp) (((sL S 4 (12 * bb + 6 * 1 + pp) ((S.2 4 (12 * bb + 6 * 1 + pp)) - (-vv))).2 4 (12 * bb + 6 * (1 - 1) + pp)) + (-vv))).2 2 bb) - vv)).1 0 22) + (nI 1))) dX6_move_100 (fun H locs hw => ?_)
        refine lv_iconst (v := nI 1) hx hb dX6_move_103 (by decide) ?_
        exact ct_zret (S := sI (sL (sL (sL S 4 (12 * bb + 6 * 1 + pp) ((S.2 4 (12 * bb + 6 * 1 + pp)) - (-vv))) 4 (12 * bb + 6 * (1 - 1) + pp) (((sL S 4 (12 * bb + 6 * 1 + pp) ((S.2 4 (12 * bb + 6 * 1 + pp)) - (-vv))).2 4 (12 * bb + 6 * (1 - 1) + pp)) + (-vv))) 2 bb (((sL (sL S 4 (12 * bb + 6 * 1 + pp) ((S.2 4 (12 * bb + 6 * 1 + pp)) - (-vv))) 4 (12 * bb + 6 * (1 - 1) + pp) (((sL S 4 (12 * bb + 6 * 1 + pp) ((S.2 4 (12 * bb + 6 * 1 + pp)) - (-vv))).2 4 (12 * bb + 6 * (1 - 1) + pp)) + (-vv))).2 2 bb) - vv)) 0 22 (((sL (sL (sL S 4 (12 * bb + 6 * 1 + pp) ((S.2 4 (12 * bb + 6 * 1 + pp)) - (-vv))) 4 (12 * bb + 6 * (1 - 1) + pp) (((sL S 4 (12 * bb + 6 * 1 + pp) ((S.2 4 (12 * bb + 6 * 1 + pp)) - (-vv))).2 4 (12 * bb + 6 * (1 - 1) + pp)) + (-vv))) 2 bb (((sL (sL S 4 (12 * bb + 6 * 1 + pp) ((S.2 4 (12 * bb + 6 * 1 + pp)) - (-vv))) 4 (12 * bb + 6 * (1 - 1) + pp) (((sL S 4 (12 * bb + 6 * 1 + pp) ((S.2 4 (12 * bb + 6 * 1 + pp)) - (-vv))).2 4 (12 * bb + 6 * (1 - 1) + pp)) + (-vv))).2 2 bb) - vv)).1 0 22) + (nI 1))) (v := nI 1) hx hb hr hlocks hK (by first | decide | exact nb_z _) hw (⟨by simp only [bI, mmvOk, c_1, c_2, c_4, decide_true, decide_false, Bool.not_true, Bool.not_false, Bool.true_and, Bool.and_true, Bool.false_and, Bool.and_false, Bool.or_true, Bool.true_or, Bool.or_false, Bool.false_or, Bool.false_eq_true, Bool.true_eq_false, if_true, if_false, ↓reduceIte], by simp only [mmvOk, mmvS, mmv1, mmv2, c_1, c_2, c_4, decide_true, decide_false, Bool.not_true, Bool.not_false, Bool.true_and, Bool.and_true, Bool.false_and, Bool.and_false, Bool.or_true, Bool.true_or, Bool.or_false, Bool.false_or, Bool.false_eq_true, Bool.true_eq_false, if_true, if_false, ↓reduceIte]⟩) dX6_move_104
      · skip
        refine lv_iconst (v := nI 0) hx hb dX6_move_45 (by decide) ?_
        exact ct_zret (S := S) (v := nI 0) hx hb hr hlocks hK (by first | decide | exact nb_z _) hw (⟨by simp only [bI, mmvOk, c_1, c_2, c_4, decide_true, decide_false, Bool.not_true, Bool.not_false, Bool.true_and, Bool.and_true, Bool.false_and, Bool.and_false, Bool.or_true, Bool.true_or, Bool.or_false, Bool.false_or, Bool.false_eq_true, Bool.true_eq_false, if_true, if_false, ↓reduceIte], by simp only [mmvOk, mmvS, mmv1, mmv2, c_1, c_2, c_4, decide_true, decide_false, Bool.not_true, Bool.not_false, Bool.true_and, Bool.and_true, Bool.false_and, Bool.and_false, Bool.or_true, Bool.true_or, Bool.or_false, Bool.false_or, Bool.false_eq_true, Bool.true_eq_false, if_true, if_false, ↓reduceIte]⟩) dX6_move_46
    · skip
      exact absurd c_1 c_2
  · skip
    refine lv_iconst (v := nI 0) hx hb dX6_move_6 (by decide) ?_
    refine lv_goto (tgt := 11) hx hb dX6_move_7 (by decide) ?_
    refine lv_istore (lv' := [(5, .int (nI 0)), (0, .ref (ad 0)), (1, .int (nI bb)), (2, .int (nI pp)), (3, .long vv)]) hx hb dX6_move_11 hl (by decide) rfl (fun ls hl => ?_)
    refine lv_lload_n hx hb dX6_move_13 rfl (lv_at hl 4 rfl) ?_
    refine lv_lconst (v := 0) hx hb dX6_move_14 (by decide) ?_
    refine lc_le (tgt := 23) hx hb dX6_move_15 dX6_move_16 (by decide) (fun c_7 => ?_) (fun c_7 => ?_)
    · skip
      exact absurd c_7 c_1
    · skip
      refine lv_lload_n hx hb dX6_move_19 rfl (lv_at hl 4 rfl) ?_
      refine lv_goto (tgt := 25) hx hb dX6_move_20 (by decide) ?_
      refine lv_lstore (lv' := [(6, .long vv), (5, .int (nI 0)), (0, .ref (ad 0)), (1, .int (nI bb)), (2, .int (nI pp)), (3, .long vv)]) hx hb dX6_move_25 hl (by decide) rfl (fun ls hl => ?_)
      refine lv_aload_n hx hb dX6_move_27 rfl (lv_at hl 2 rfl) ?_
      refine wo_get hx hb hts inX6 hown hK hw 0 rfl rfl 5 (by decide) (hts _ wd_570) (fun _ h9 => h9) rfl dX6_move_28 ?_
      refine lv_iload_n hx hb dX6_move_31 rfl (lv_at hl 3 rfl) ?_
      refine lv_iload hx hb dX6_move_32 (lv_at hl 1 rfl) ?_
      refine lv_iload_n hx hb dX6_move_34 rfl (lv_at hl 4 rfl) ?_
      refine wo_sI (As := [.int (nI bb), .int (nI 0), .int (nI pp)]) (rest := [.ref (ad 4)]) (kX6_at l dC dI ca ad S bb 0 pp) ⟨hx, hb, hml, hown, hts⟩ (va_cwS 3 hts (wa_gS wd_680 wd_681 wd_8 wd_682) rfl rfl rfl (by decide +kernel) ⟨Nat.le_of_ble_eq_true rfl, Nat.le_of_ble_eq_true rfl⟩) hK hw hA rfl hl.1 rfl (Nat.le_of_ble_eq_true rfl) dX6_move_35 ⟨Nat.zero_le _, Nat.zero_le _⟩ (fun r_8 S_8 H locs hp_8 hw => ?_)
      have e9 := hp_8.1.symm
      subst e9
      have e9 := hp_8.2.symm
      subst e9
      refine wo_lald hx hb hK hw 4 1 rfl rfl (12 * bb + 6 * 0 + pp) rfl (by first | assumption | omega) (by decide) dX6_move_38 ?_
      refine lv_lload hx hb dX6_move_39 (lv_at hl 0 rfl) ?_
      refine lc_ge (tgt := 47) hx hb dX6_move_41 dX6_move_42 (by decide) (fun c_9 => ?_) (fun c_9 => ?_)
      · skip
        refine lv_aload_n hx hb dX6_move_47 rfl (lv_at hl 2 rfl) ?_
        refine wo_get hx hb hts inX6 hown hK hw 0 rfl rfl 5 (by decide) (hts _ wd_570) (fun _ h9 => h9) rfl dX6_move_48 ?_
        refine lv_iload_n hx hb dX6_move_51 rfl (lv_at hl 3 rfl) ?_
        refine lv_iload hx hb dX6_move_52 (lv_at hl 1 rfl) ?_
        refine lv_iload_n hx hb dX6_move_54 rfl (lv_at hl 4 rfl) ?_
        refine wo_sI (As := [.int (nI bb), .int (nI 0), .int (nI pp)]) (rest := [.ref (ad 4)]) (kX6_at l dC dI ca ad S bb 0 pp) ⟨hx, hb, hml, hown, hts⟩ (va_cwS 3 hts (wa_gS wd_680 wd_681 wd_8 wd_682) rfl rfl rfl (by decide +kernel) ⟨Nat.le_of_ble_eq_true rfl, Nat.le_of_ble_eq_true rfl⟩) hK hw hA rfl hl.1 rfl (Nat.le_of_ble_eq_true rfl) dX6_move_55 ⟨Nat.zero_le _, Nat.zero_le _⟩ (fun r_10 S_10 H locs hp_10 hw => ?_)
        have e9 := hp_10.1.symm
        subst e9
        have e9 := hp_10.2.symm
        subst e9
        refine lv_dup2_11 hx hb dX6_move_58 rfl rfl ?_
        refine wo_lald hx hb hK hw 4 1 rfl rfl (12 * bb + 6 * 0 + pp) rfl (by first | assumption | omega) (by decide) dX6_move_59 ?_
        refine lv_lload hx hb dX6_move_60 (lv_at hl 0 rfl) ?_
        refine lv_lsub hx hb dX6_move_62 ?_
        refine wo_last hx hb hK hw 4 1 rfl rfl (12 * bb + 6 * 0 + pp) rfl (by first | assumption | omega) (by decide) (sm_4 ca ad S (12 * bb + 6 * 0 + pp) ((S.2 4 (12 * bb + 6 * 0 + pp)) - vv)) dX6_move_63 (fun H locs hw => ?_)
        refine lv_aload_n hx hb dX6_move_64 rfl (lv_at hl 2 rfl) ?_
        refine wo_get hx hb hts inX6 hown hK hw 0 rfl rfl 5 (by decide) (hts _ wd_570) (fun _ h9 => h9) rfl dX6_move_65 ?_
        refine lv_iload_n hx hb dX6_move_68 rfl (lv_at hl 3 rfl) ?_
        refine lv_iconst (v := nI 1) hx hb dX6_move_69 (by decide) ?_
        refine lv_iload hx hb dX6_move_70 (lv_at hl 1 rfl) ?_
        refine lv_isub hx hb dX6_move_72 ?_
        refine tp_i (pk_sub (a := 1) (b := 0) (by omega)) ?_
        refine lv_iload_n hx hb dX6_move_73 rfl (lv_at hl 4 rfl) ?_
        refine wo_sI (As := [.int (nI bb), .int (nI (1 - 0)), .int (nI pp)]) (rest := [.ref (ad 4)]) (kX6_at l dC dI ca ad (sL S 4 (12 * bb + 6 * 0 + pp) ((S.2 4 (12 * bb + 6 * 0 + pp)) - vv)) bb (1 - 0) pp) ⟨hx, hb, hml, hown, hts⟩ (va_cwS 3 hts (wa_gS wd_680 wd_681 wd_8 wd_682) rfl rfl rfl (by decide +kernel) ⟨Nat.le_of_ble_eq_true rfl, Nat.le_of_ble_eq_true rfl⟩) hK hw hA rfl hl.1 rfl (Nat.le_of_ble_eq_true rfl) dX6_move_74 ⟨Nat.zero_le _, Nat.zero_le _⟩ (fun r_11 S_11 H locs hp_11 hw => ?_)
        have e9 := hp_11.1.symm
        subst e9
        have e9 := hp_11.2.symm
        subst e9
        refine lv_dup2_11 hx hb dX6_move_77 rfl rfl ?_
        refine wo_lald hx hb hK hw 4 1 rfl rfl (12 * bb + 6 * (1 - 0) + pp) rfl (by first | assumption | omega) (by decide) dX6_move_78 ?_
        refine lv_lload hx hb dX6_move_79 (lv_at hl 0 rfl) ?_
        refine lv_ladd hx hb dX6_move_81 ?_
        refine wo_last hx hb hK hw 4 1 rfl rfl (12 * bb + 6 * (1 - 0) + pp) rfl (by first | assumption | omega) (by decide) (sm_4 ca ad (sL S 4 (12 * bb + 6 * 0 + pp) ((S.2 4 (12 * bb + 6 * 0 + pp)) - vv)) (12 * bb + 6 * (1 - 0) + pp) (((sL S 4 (12 * bb + 6 * 0 + pp) ((S.2 4 (12 * bb + 6 * 0 + pp)) - vv)).2 4 (12 * bb + 6 * (1 - 0) + pp)) + vv)) dX6_move_82 (fun H locs hw => ?_)
        refine lv_aload_n hx hb dX6_move_83 rfl (lv_at hl 2 rfl) ?_
        refine wo_get hx hb hts inX6 hown hK hw 0 rfl rfl 3 (by decide) (hts _ wd_568) (fun _ h9 => h9) rfl dX6_move_84 ?_
        refine lv_iload_n hx hb dX6_move_87 rfl (lv_at hl 3 rfl) ?_
        refine lv_dup2_11 hx hb dX6_move_88 rfl rfl ?_
        refine wo_lald hx hb hK hw 2 1 rfl rfl bb rfl (by first | assumption | omega) (by decide) dX6_move_89 ?_
        refine lv_lload_n hx hb dX6_move_90 rfl (lv_at hl 5 rfl) ?_
        refine lv_lsub hx hb dX6_move_91 ?_
        refine wo_last hx hb hK hw 2 1 rfl rfl bb rfl (by first | assumption | omega) (by decide) (sm_2 ca ad (sL (sL S 4 (12 * bb + 6 * 0 + pp) ((S.2 4 (12 * bb + 6 * 0 + pp)) - vv)) 4 (12 * bb + 6 * (1 - 0) + pp) (((sL S 4 (12 * bb + 6 * 0 + pp) ((S.2 4 (12 * bb + 6 * 0 + pp)) - vv)).2 4 (12 * bb + 6 * (1 - 0) + pp)) + vv)) bb (((sL (sL S 4 (12 * bb + 6 * 0 + pp) ((S.2 4 (12 * bb + 6 * 0 + pp)) - vv)) 4 (12 * bb + 6 * (1 - 0) + pp) (((sL S 4 (12 * bb + 6 * 0 + pp) ((S.2 4 (12 * bb + 6 * 0 + pp)) - vv)).2 4 (12 * bb + 6 * (1 - 0) + pp)) + vv)).2 2 bb) - vv)) dX6_move_92 (fun H locs hw => ?_)
        refine lv_aload_n hx hb dX6_move_93 rfl (lv_at hl 2 rfl) ?_
        refine lv_dup hx hb dX6_move_94 rfl ?_
        refine wo_get hx hb hts inX6 hown hK hw 0 rfl rfl 22 (by decide) (hts _ wd_587) (fun _ h9 => h9) rfl dX6_move_95 ?_
        refine lv_iconst (v := nI 1) hx hb dX6_move_98 (by decide) ?_
        refine lv_iadd hx hb dX6_move_99 ?_
        refine wo_put (ty := .int) (v := .int (((sL (sL (sL S 4 (12 * bb + 6 * 0 + pp) ((S.2 4 (12 * bb + 6 * 0 + pp)) - vv)) 4 (12 * bb + 6 * (1 - 0) + pp) (((sL S 4 (12 * bb + 6 * 0 + pp) ((S.2 4 (12 * bb + 6 * 0 + pp)) - vv)).2 4 (12 * bb + 6 * (1 - 0) + pp)) + vv)) 2 bb (((sL (sL S 4 (12 * bb + 6 * 0 + pp) ((S.2 4 (12 * bb + 6 * 0 + pp)) - vv)) 4 (12 * bb + 6 * (1 - 0) + pp) (((sL S 4 (12 * bb + 6 * 0 + pp) ((S.2 4 (12 * bb + 6 * 0 + pp)) - vv)).2 4 (12 * bb + 6 * (1 - 0) + pp)) + vv)).2 2 bb) - vv)).1 0 22) + (nI 1))) hx hb hts inX6 tyX6 tyX6_ok nmX6 hown hK hw 0 rfl rfl 22 (by decide) (hts _ wd_587) (fun _ h9 => h9) rfl (by decide +kernel) rfl rfl (Nat.le_of_ble_eq_true rfl) (sg_22 ca ad (sL (sL (sL S 4 (12 * bb + 6 * 0 + pp) ((S.2 4 (12 * bb + 6 * 0 + pp)) - vv)) 4 (12 * bb + 6 * (1 - 0) + pp) (((sL S 4 (12 * bb + 6 * 0 + pp) ((S.2 4 (12 * bb + 6 * 0 + pp)) - vv)).2 4 (12 * bb + 6 * (1 - 0) + pp)) + vv)) 2 bb (((sL (sL S 4 (12 * bb + 6 * 0 + pp) ((S.2 4 (12 * bb + 6 * 0 + pp)) - vv)) 4 (12 * bb + 6 * (1 - 0) + pp) (((sL S 4 (12 * bb + 6 * 0 + pp) ((S.2 4 (12 * bb + 6 * 0 + pp)) - vv)).2 4 (12 * bb + 6 * (1 - 0) + pp)) + vv)).2 2 bb) - vv)) (((sL (sL (sL S 4 (12 * bb + 6 * 0 + pp) ((S.2 4 (12 * bb + 6 * 0 + pp)) - vv)) 4 (12 * bb + 6 * (1 - 0) + pp) (((sL S 4 (12 * bb + 6 * 0 + pp) ((S.2 4 (12 * bb + 6 * 0 + pp)) - vv)).2 4 (12 * bb + 6 * (1 - 0) + pp)) + vv)) 2 bb (((sL (sL S 4 (12 * bb + 6 * 0 + pp) ((S.2 4 (12 * bb + 6 * 0 + pp)) - vv)) 4 (12 * bb + 6 * (1 - 0) + pp) (((sL S 4 (12 * bb + 6 * 0 + pp) ((S.2 4 (12 * bb + 6 * 0 + pp)) - vv)).2 4 (12 * bb + 6 * (1 - 0) + pp)) + vv)).2 2 bb) - vv)).1 0 22) + (nI 1))) dX6_move_100 (fun H locs hw => ?_)
        refine lv_iconst (v := nI 1) hx hb dX6_move_103 (by decide) ?_
        exact ct_zret (S := sI (sL (sL (sL S 4 (12 * bb + 6 * 0 + pp) ((S.2 4 (12 * bb + 6 * 0 + pp)) - vv)) 4 (12 * bb + 6 * (1 - 0) + pp) (((sL S 4 (12 * bb + 6 * 0 + pp) ((S.2 4 (12 * bb + 6 * 0 + pp)) - vv)).2 4 (12 * bb + 6 * (1 - 0) + pp)) + vv)) 2 bb (((sL (sL S 4 (12 * bb + 6 * 0 + pp) ((S.2 4 (12 * bb + 6 * 0 + pp)) - vv)) 4 (12 * bb + 6 * (1 - 0) + pp) (((sL S 4 (12 * bb + 6 * 0 + pp) ((S.2 4 (12 * bb + 6 * 0 + pp)) - vv)).2 4 (12 * bb + 6 * (1 - 0) + pp)) + vv)).2 2 bb) - vv)) 0 22 (((sL (sL (sL S 4 (12 * bb + 6 * 0 + pp) ((S.2 4 (12 * bb + 6 * 0 + pp)) - vv)) 4 (12 * bb + 6 * (1 - 0) + pp) (((sL S 4 (12 * bb + 6 * 0 + pp) ((S.2 4 (12 * bb + 6 * 0 + pp)) - vv)).2 4 (12 * bb + 6 * (1 - 0) + pp)) + vv)) 2 bb (((sL (sL S 4 (12 * bb + 6 * 0 + pp) ((S.2 4 (12 * bb + 6 * 0 + pp)) - vv)) 4 (12 * bb + 6 * (1 - 0) + pp) (((sL S 4 (12 * bb + 6 * 0 + pp) ((S.2 4 (12 * bb + 6 * 0 + pp)) - vv)).2 4 (12 * bb + 6 * (1 - 0) + pp)) + vv)).2 2 bb) - vv)).1 0 22) + (nI 1))) (v := nI 1) hx hb hr hlocks hK (by first | decide | exact nb_z _) hw (⟨by simp only [bI, mmvOk, c_1, c_7, c_9, decide_true, decide_false, Bool.not_true, Bool.not_false, Bool.true_and, Bool.and_true, Bool.false_and, Bool.and_false, Bool.or_true, Bool.true_or, Bool.or_false, Bool.false_or, Bool.false_eq_true, Bool.true_eq_false, if_true, if_false, ↓reduceIte], by simp only [mmvOk, mmvS, mmv1, mmv2, c_1, c_7, c_9, decide_true, decide_false, Bool.not_true, Bool.not_false, Bool.true_and, Bool.and_true, Bool.false_and, Bool.and_false, Bool.or_true, Bool.true_or, Bool.or_false, Bool.false_or, Bool.false_eq_true, Bool.true_eq_false, if_true, if_false, ↓reduceIte]⟩) dX6_move_104
      · skip
        refine lv_iconst (v := nI 0) hx hb dX6_move_45 (by decide) ?_
        exact ct_zret (S := S) (v := nI 0) hx hb hr hlocks hK (by first | decide | exact nb_z _) hw (⟨by simp only [bI, mmvOk, c_1, c_7, c_9, decide_true, decide_false, Bool.not_true, Bool.not_false, Bool.true_and, Bool.and_true, Bool.false_and, Bool.and_false, Bool.or_true, Bool.true_or, Bool.or_false, Bool.false_or, Bool.false_eq_true, Bool.true_eq_false, if_true, if_false, ↓reduceIte], by simp only [mmvOk, mmvS, mmv1, mmv2, c_1, c_7, c_9, decide_true, decide_false, Bool.not_true, Bool.not_false, Bool.true_and, Bool.and_true, Bool.false_and, Bool.and_false, Bool.or_true, Bool.true_or, Bool.or_false, Bool.false_or, Bool.false_eq_true, Bool.true_eq_false, if_true, if_false, ↓reduceIte]⟩) dX6_move_46
