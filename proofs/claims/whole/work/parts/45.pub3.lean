theorem dX5_row_0 : decode cX5_row 0 = .ok (.aload_n 0, 1) := by decide +kernel
theorem dX5_row_1 : decode cX5_row 1 = .ok (.getfield 26, 3) := by decide +kernel
theorem dX5_row_4 : decode cX5_row 4 = .ok (.iload_n 1, 1) := by decide +kernel
theorem dX5_row_5 : decode cX5_row 5 = .ok (.invokevirtual 147, 3) := by decide +kernel
theorem dX5_row_8 : decode cX5_row 8 = .ok (.ifCond .ne 5, 3) := by decide +kernel
theorem dX5_row_11 : decode cX5_row 11 = .ok (.iconst (-1), 1) := by decide +kernel
theorem dX5_row_12 : decode cX5_row 12 = .ok (.ireturn, 1) := by decide +kernel
theorem dX5_row_13 : decode cX5_row 13 = .ok (.iload_n 2, 1) := by decide +kernel
theorem dX5_row_14 : decode cX5_row 14 = .ok (.tableswitch 98 0 5 #[38, 48, 58, 68, 78, 88], 38) := by decide +kernel
theorem dX5_row_52 : decode cX5_row 52 = .ok (.aload_n 0, 1) := by decide +kernel
theorem dX5_row_53 : decode cX5_row 53 = .ok (.getfield 26, 3) := by decide +kernel
theorem dX5_row_56 : decode cX5_row 56 = .ok (.getfield 155, 3) := by decide +kernel
theorem dX5_row_59 : decode cX5_row 59 = .ok (.iload_n 1, 1) := by decide +kernel
theorem dX5_row_60 : decode cX5_row 60 = .ok (.iaload, 1) := by decide +kernel
theorem dX5_row_61 : decode cX5_row 61 = .ok (.ireturn, 1) := by decide +kernel
theorem dX5_row_62 : decode cX5_row 62 = .ok (.aload_n 0, 1) := by decide +kernel
theorem dX5_row_63 : decode cX5_row 63 = .ok (.getfield 26, 3) := by decide +kernel
theorem dX5_row_66 : decode cX5_row 66 = .ok (.getfield 158, 3) := by decide +kernel
theorem dX5_row_69 : decode cX5_row 69 = .ok (.iload_n 1, 1) := by decide +kernel
theorem dX5_row_70 : decode cX5_row 70 = .ok (.iaload, 1) := by decide +kernel
theorem dX5_row_71 : decode cX5_row 71 = .ok (.ireturn, 1) := by decide +kernel
theorem dX5_row_72 : decode cX5_row 72 = .ok (.aload_n 0, 1) := by decide +kernel
theorem dX5_row_73 : decode cX5_row 73 = .ok (.getfield 26, 3) := by decide +kernel
theorem dX5_row_76 : decode cX5_row 76 = .ok (.getfield 216, 3) := by decide +kernel
theorem dX5_row_79 : decode cX5_row 79 = .ok (.iload_n 1, 1) := by decide +kernel
theorem dX5_row_80 : decode cX5_row 80 = .ok (.iaload, 1) := by decide +kernel
theorem dX5_row_81 : decode cX5_row 81 = .ok (.ireturn, 1) := by decide +kernel
theorem dX5_row_82 : decode cX5_row 82 = .ok (.aload_n 0, 1) := by decide +kernel
theorem dX5_row_83 : decode cX5_row 83 = .ok (.getfield 26, 3) := by decide +kernel
theorem dX5_row_86 : decode cX5_row 86 = .ok (.getfield 161, 3) := by decide +kernel
theorem dX5_row_89 : decode cX5_row 89 = .ok (.iload_n 1, 1) := by decide +kernel
theorem dX5_row_90 : decode cX5_row 90 = .ok (.iaload, 1) := by decide +kernel
theorem dX5_row_91 : decode cX5_row 91 = .ok (.ireturn, 1) := by decide +kernel
theorem dX5_row_92 : decode cX5_row 92 = .ok (.aload_n 0, 1) := by decide +kernel
theorem dX5_row_93 : decode cX5_row 93 = .ok (.getfield 26, 3) := by decide +kernel
theorem dX5_row_96 : decode cX5_row 96 = .ok (.getfield 148, 3) := by decide +kernel
theorem dX5_row_99 : decode cX5_row 99 = .ok (.iload_n 1, 1) := by decide +kernel
theorem dX5_row_100 : decode cX5_row 100 = .ok (.iaload, 1) := by decide +kernel
theorem dX5_row_101 : decode cX5_row 101 = .ok (.ireturn, 1) := by decide +kernel
theorem dX5_row_102 : decode cX5_row 102 = .ok (.aload_n 0, 1) := by decide +kernel
theorem dX5_row_103 : decode cX5_row 103 = .ok (.getfield 26, 3) := by decide +kernel
theorem dX5_row_106 : decode cX5_row 106 = .ok (.getfield 152, 3) := by decide +kernel
theorem dX5_row_109 : decode cX5_row 109 = .ok (.iload_n 1, 1) := by decide +kernel
theorem dX5_row_110 : decode cX5_row 110 = .ok (.iaload, 1) := by decide +kernel
theorem dX5_row_111 : decode cX5_row 111 = .ok (.ireturn, 1) := by decide +kernel
theorem dX5_row_112 : decode cX5_row 112 = .ok (.iconst (-1), 1) := by decide +kernel
theorem dX5_row_113 : decode cX5_row 113 = .ok (.ireturn, 1) := by decide +kernel

theorem dJ6_bitCount_0 : decode cJ6_bitCount 0 = .ok (.iload_n 0, 1) := by decide +kernel
theorem dJ6_bitCount_1 : decode cJ6_bitCount 1 = .ok (.iload_n 0, 1) := by decide +kernel
theorem dJ6_bitCount_2 : decode cJ6_bitCount 2 = .ok (.iconst 1, 1) := by decide +kernel
theorem dJ6_bitCount_3 : decode cJ6_bitCount 3 = .ok (.iushr, 1) := by decide +kernel
theorem dJ6_bitCount_4 : decode cJ6_bitCount 4 = .ok (.ldc_w 265, 3) := by decide +kernel
theorem dJ6_bitCount_7 : decode cJ6_bitCount 7 = .ok (.iand, 1) := by decide +kernel
theorem dJ6_bitCount_8 : decode cJ6_bitCount 8 = .ok (.isub, 1) := by decide +kernel
theorem dJ6_bitCount_9 : decode cJ6_bitCount 9 = .ok (.istore_n 0, 1) := by decide +kernel
theorem dJ6_bitCount_10 : decode cJ6_bitCount 10 = .ok (.iload_n 0, 1) := by decide +kernel
theorem dJ6_bitCount_11 : decode cJ6_bitCount 11 = .ok (.ldc_w 266, 3) := by decide +kernel
theorem dJ6_bitCount_14 : decode cJ6_bitCount 14 = .ok (.iand, 1) := by decide +kernel
theorem dJ6_bitCount_15 : decode cJ6_bitCount 15 = .ok (.iload_n 0, 1) := by decide +kernel
theorem dJ6_bitCount_16 : decode cJ6_bitCount 16 = .ok (.iconst 2, 1) := by decide +kernel
theorem dJ6_bitCount_17 : decode cJ6_bitCount 17 = .ok (.iushr, 1) := by decide +kernel
theorem dJ6_bitCount_18 : decode cJ6_bitCount 18 = .ok (.ldc_w 266, 3) := by decide +kernel
theorem dJ6_bitCount_21 : decode cJ6_bitCount 21 = .ok (.iand, 1) := by decide +kernel
theorem dJ6_bitCount_22 : decode cJ6_bitCount 22 = .ok (.iadd, 1) := by decide +kernel
theorem dJ6_bitCount_23 : decode cJ6_bitCount 23 = .ok (.istore_n 0, 1) := by decide +kernel
theorem dJ6_bitCount_24 : decode cJ6_bitCount 24 = .ok (.iload_n 0, 1) := by decide +kernel
theorem dJ6_bitCount_25 : decode cJ6_bitCount 25 = .ok (.iload_n 0, 1) := by decide +kernel
theorem dJ6_bitCount_26 : decode cJ6_bitCount 26 = .ok (.iconst 4, 1) := by decide +kernel
theorem dJ6_bitCount_27 : decode cJ6_bitCount 27 = .ok (.iushr, 1) := by decide +kernel
theorem dJ6_bitCount_28 : decode cJ6_bitCount 28 = .ok (.iadd, 1) := by decide +kernel
theorem dJ6_bitCount_29 : decode cJ6_bitCount 29 = .ok (.ldc_w 267, 3) := by decide +kernel
theorem dJ6_bitCount_32 : decode cJ6_bitCount 32 = .ok (.iand, 1) := by decide +kernel
theorem dJ6_bitCount_33 : decode cJ6_bitCount 33 = .ok (.istore_n 0, 1) := by decide +kernel
theorem dJ6_bitCount_34 : decode cJ6_bitCount 34 = .ok (.iload_n 0, 1) := by decide +kernel
theorem dJ6_bitCount_35 : decode cJ6_bitCount 35 = .ok (.iload_n 0, 1) := by decide +kernel
theorem dJ6_bitCount_36 : decode cJ6_bitCount 36 = .ok (.bipush 8, 2) := by decide +kernel
theorem dJ6_bitCount_38 : decode cJ6_bitCount 38 = .ok (.iushr, 1) := by decide +kernel
theorem dJ6_bitCount_39 : decode cJ6_bitCount 39 = .ok (.iadd, 1) := by decide +kernel
theorem dJ6_bitCount_40 : decode cJ6_bitCount 40 = .ok (.istore_n 0, 1) := by decide +kernel
theorem dJ6_bitCount_41 : decode cJ6_bitCount 41 = .ok (.iload_n 0, 1) := by decide +kernel
theorem dJ6_bitCount_42 : decode cJ6_bitCount 42 = .ok (.iload_n 0, 1) := by decide +kernel
theorem dJ6_bitCount_43 : decode cJ6_bitCount 43 = .ok (.bipush 16, 2) := by decide +kernel
theorem dJ6_bitCount_45 : decode cJ6_bitCount 45 = .ok (.iushr, 1) := by decide +kernel
theorem dJ6_bitCount_46 : decode cJ6_bitCount 46 = .ok (.iadd, 1) := by decide +kernel
theorem dJ6_bitCount_47 : decode cJ6_bitCount 47 = .ok (.istore_n 0, 1) := by decide +kernel
theorem dJ6_bitCount_48 : decode cJ6_bitCount 48 = .ok (.iload_n 0, 1) := by decide +kernel
theorem dJ6_bitCount_49 : decode cJ6_bitCount 49 = .ok (.bipush 63, 2) := by decide +kernel
theorem dJ6_bitCount_51 : decode cJ6_bitCount 51 = .ok (.iand, 1) := by decide +kernel
theorem dJ6_bitCount_52 : decode cJ6_bitCount 52 = .ok (.ireturn, 1) := by decide +kernel

theorem dX5_person_0 : decode cX5_person 0 = .ok (.iload_n 1, 1) := by decide +kernel
theorem dX5_person_1 : decode cX5_person 1 = .ok (.invokestatic 183, 3) := by decide +kernel
theorem dX5_person_4 : decode cX5_person 4 = .ok (.ifCond .ne 5, 3) := by decide +kernel
theorem dX5_person_7 : decode cX5_person 7 = .ok (.iconst (-1), 1) := by decide +kernel
theorem dX5_person_8 : decode cX5_person 8 = .ok (.ireturn, 1) := by decide +kernel
theorem dX5_person_9 : decode cX5_person 9 = .ok (.iload_n 2, 1) := by decide +kernel
theorem dX5_person_10 : decode cX5_person 10 = .ok (.tableswitch 81 0 3 #[30, 40, 58, 68], 30) := by decide +kernel
theorem dX5_person_40 : decode cX5_person 40 = .ok (.aload_n 0, 1) := by decide +kernel
theorem dX5_person_41 : decode cX5_person 41 = .ok (.getfield 10, 3) := by decide +kernel
theorem dX5_person_44 : decode cX5_person 44 = .ok (.getfield 172, 3) := by decide +kernel
theorem dX5_person_47 : decode cX5_person 47 = .ok (.iload_n 1, 1) := by decide +kernel
theorem dX5_person_48 : decode cX5_person 48 = .ok (.iaload, 1) := by decide +kernel
theorem dX5_person_49 : decode cX5_person 49 = .ok (.ireturn, 1) := by decide +kernel
theorem dX5_person_50 : decode cX5_person 50 = .ok (.aload_n 0, 1) := by decide +kernel
theorem dX5_person_51 : decode cX5_person 51 = .ok (.getfield 10, 3) := by decide +kernel
theorem dX5_person_54 : decode cX5_person 54 = .ok (.getfield 101, 3) := by decide +kernel
theorem dX5_person_57 : decode cX5_person 57 = .ok (.iload_n 1, 1) := by decide +kernel
theorem dX5_person_58 : decode cX5_person 58 = .ok (.baload, 1) := by decide +kernel
theorem dX5_person_59 : decode cX5_person 59 = .ok (.ifCond .eq 7, 3) := by decide +kernel
theorem dX5_person_62 : decode cX5_person 62 = .ok (.iconst 1, 1) := by decide +kernel
theorem dX5_person_63 : decode cX5_person 63 = .ok (.goto 4, 3) := by decide +kernel
theorem dX5_person_66 : decode cX5_person 66 = .ok (.iconst 0, 1) := by decide +kernel
theorem dX5_person_67 : decode cX5_person 67 = .ok (.ireturn, 1) := by decide +kernel
theorem dX5_person_68 : decode cX5_person 68 = .ok (.aload_n 0, 1) := by decide +kernel
theorem dX5_person_69 : decode cX5_person 69 = .ok (.getfield 33, 3) := by decide +kernel
theorem dX5_person_72 : decode cX5_person 72 = .ok (.getfield 224, 3) := by decide +kernel
theorem dX5_person_75 : decode cX5_person 75 = .ok (.iload_n 1, 1) := by decide +kernel
theorem dX5_person_76 : decode cX5_person 76 = .ok (.iaload, 1) := by decide +kernel
theorem dX5_person_77 : decode cX5_person 77 = .ok (.ireturn, 1) := by decide +kernel
theorem dX5_person_78 : decode cX5_person 78 = .ok (.aload_n 0, 1) := by decide +kernel
theorem dX5_person_79 : decode cX5_person 79 = .ok (.getfield 10, 3) := by decide +kernel
theorem dX5_person_82 : decode cX5_person 82 = .ok (.getfield 232, 3) := by decide +kernel
theorem dX5_person_85 : decode cX5_person 85 = .ok (.iload_n 1, 1) := by decide +kernel
theorem dX5_person_86 : decode cX5_person 86 = .ok (.iaload, 1) := by decide +kernel
theorem dX5_person_87 : decode cX5_person 87 = .ok (.invokestatic 235, 3) := by decide +kernel
theorem dX5_person_90 : decode cX5_person 90 = .ok (.ireturn, 1) := by decide +kernel
theorem dX5_person_91 : decode cX5_person 91 = .ok (.iconst (-1), 1) := by decide +kernel
theorem dX5_person_92 : decode cX5_person 92 = .ok (.ireturn, 1) := by decide +kernel

theorem dX5_total_0 : decode cX5_total 0 = .ok (.iload_n 1, 1) := by decide +kernel
theorem dX5_total_1 : decode cX5_total 1 = .ok (.tableswitch 57 0 3 #[31, 39, 47, 52], 31) := by decide +kernel
theorem dX5_total_32 : decode cX5_total 32 = .ok (.aload_n 0, 1) := by decide +kernel
theorem dX5_total_33 : decode cX5_total 33 = .ok (.getfield 19, 3) := by decide +kernel
theorem dX5_total_36 : decode cX5_total 36 = .ok (.getfield 77, 3) := by decide +kernel
theorem dX5_total_39 : decode cX5_total 39 = .ok (.ireturn, 1) := by decide +kernel
theorem dX5_total_40 : decode cX5_total 40 = .ok (.aload_n 0, 1) := by decide +kernel
theorem dX5_total_41 : decode cX5_total 41 = .ok (.getfield 26, 3) := by decide +kernel
theorem dX5_total_44 : decode cX5_total 44 = .ok (.getfield 241, 3) := by decide +kernel
theorem dX5_total_47 : decode cX5_total 47 = .ok (.ireturn, 1) := by decide +kernel
theorem dX5_total_48 : decode cX5_total 48 = .ok (.aload_n 0, 1) := by decide +kernel
theorem dX5_total_49 : decode cX5_total 49 = .ok (.getfield 116, 3) := by decide +kernel
theorem dX5_total_52 : decode cX5_total 52 = .ok (.ireturn, 1) := by decide +kernel
theorem dX5_total_53 : decode cX5_total 53 = .ok (.aload_n 0, 1) := by decide +kernel
theorem dX5_total_54 : decode cX5_total 54 = .ok (.getfield 122, 3) := by decide +kernel
theorem dX5_total_57 : decode cX5_total 57 = .ok (.ireturn, 1) := by decide +kernel
theorem dX5_total_58 : decode cX5_total 58 = .ok (.iconst (-1), 1) := by decide +kernel
theorem dX5_total_59 : decode cX5_total 59 = .ok (.ireturn, 1) := by decide +kernel

set_option maxHeartbeats 4000000 in
set_option maxRecDepth 100000 in
theorem kX5_row (l : Launch) (dC : Nat → ClassId) (dI : Nat → Nat → Nat) (ca : Nat → ClassId) (ad : Nat → Nat) (S : sSt) (rr : Int32) (wh : Int32) (nb : Nat) (nr : Nat) (hb6 : nb ≤ 6) (hr2 : nr ≤ 200) (hri : RI nb nr S) : ct_I l yX5_row (Cond.code yX5_row cX5_row 3 (some .int) :: wa_T) ({ frames := 1, cells := 0, slots := 0, locals := 21 } : Room) (dC, dI) vwCl (tyl ca) (wc ca ad) S [.ref (ad 0), .int rr, .int wh] (fun r S2 => r = rwF S rr wh ∧ S2 = S) := by
  refine ct_ofI (by decide) (Nat.le_of_ble_eq_true rfl) ?_
  intro p e s m below meth c A ls hx hb hr hml hts hown hlocks hK hA hw hl
  have hl : lv_has ls 3 [(0, .ref (ad 0)), (1, .int rr), (2, .int wh)] := hl
  refine lv_aload_n hx hb dX5_row_0 rfl (lv_at hl 0 rfl) ?_
  refine wo_get hx hb hts inX5 hown hK hw 0 rfl rfl 2 (by decide) (hts _ wd_168) (fun _ h9 => h9) rfl dX5_row_1 ?_
  refine lv_iload_n hx hb dX5_row_4 rfl (lv_at hl 1 rfl) ?_
  refine wo_vI (As := [.int rr]) (rest := []) (kX3_has l dC dI ca ad S rr) ⟨hx, hb, hml, hown, hts⟩ (cwV 1 hts (wa_gV wd_269 wd_270 wd_271 wd_5 wd_272) rfl rfl rfl (by decide +kernel) ⟨Nat.le_of_ble_eq_true rfl, Nat.le_of_ble_eq_true rfl⟩) hK hw hA 3 rfl rfl rfl rfl hl.1 rfl (Nat.le_of_ble_eq_true rfl) dX5_row_5 ⟨Nat.zero_le _, Nat.zero_le _⟩ (fun r_1 S_1 H locs hp_1 hw => ?_)
  have e9 := hp_1.1.symm
  subst e9
  have e9 := hp_1.2.symm
  subst e9
  refine lv_if_ne (tgt := 13) hx hb dX5_row_8 (by decide) (fun c_2 => ?_) (fun c_2 => ?_)
  · skip
    have c_2 : hrw S rr = true := nb_1 c_2
    obtain ⟨r9, hr9, hr9n, rfl⟩ := hrw_n hri.2.2 hr2 c_2
    have ec_r9 := nI_clamp (n := r9) (by omega)
    refine lv_iload_n hx hb dX5_row_13 rfl (lv_at hl 2 rfl) ?_
    by_cases c_3 : wh = nI 0
    · skip
      subst c_3
      refine lv_tableIn (tgt := 52) hx hb dX5_row_14 (by decide) (by decide) rfl (by decide) ?_
      refine lv_aload_n hx hb dX5_row_52 rfl (lv_at hl 0 rfl) ?_
      refine wo_get hx hb hts inX5 hown hK hw 0 rfl rfl 2 (by decide) (hts _ wd_168) (fun _ h9 => h9) rfl dX5_row_53 ?_
      refine wo_get hx hb hts inX3 hown hK hw 3 rfl rfl 1 (by decide) (hts _ wd_92) (fun _ h9 => h9) rfl dX5_row_56 ?_
      refine lv_iload_n hx hb dX5_row_59 rfl (lv_at hl 1 rfl) ?_
      refine wo_iald hx hb hK hw 26 0 rfl rfl r9 rfl (by first | assumption | omega) (by decide) dX5_row_60 ?_
      exact ct_iret (S := S) (v := S.1 26 r9) hx hb hr hlocks hK hw (⟨by rw [rwF, if_pos c_2, ec_r9]; rfl, rfl⟩) dX5_row_61
    by_cases c_4 : wh = nI 1
    · skip
      subst c_4
      refine lv_tableIn (tgt := 62) hx hb dX5_row_14 (by decide) (by decide) rfl (by decide) ?_
      refine lv_aload_n hx hb dX5_row_62 rfl (lv_at hl 0 rfl) ?_
      refine wo_get hx hb hts inX5 hown hK hw 0 rfl rfl 2 (by decide) (hts _ wd_168) (fun _ h9 => h9) rfl dX5_row_63 ?_
      refine wo_get hx hb hts inX3 hown hK hw 3 rfl rfl 2 (by decide) (hts _ wd_94) (fun _ h9 => h9) rfl dX5_row_66 ?_
      refine lv_iload_n hx hb dX5_row_69 rfl (lv_at hl 1 rfl) ?_
      refine wo_iald hx hb hK hw 27 0 rfl rfl r9 rfl (by first | assumption | omega) (by decide) dX5_row_70 ?_
      exact ct_iret (S := S) (v := S.1 27 r9) hx hb hr hlocks hK hw (⟨by rw [rwF, if_pos c_2, ec_r9]; rfl, rfl⟩) dX5_row_71
    by_cases c_5 : wh = nI 2
    · skip
      subst c_5
      refine lv_tableIn (tgt := 72) hx hb dX5_row_14 (by decide) (by decide) rfl (by decide) ?_
      refine lv_aload_n hx hb dX5_row_72 rfl (lv_at hl 0 rfl) ?_
      refine wo_get hx hb hts inX5 hown hK hw 0 rfl rfl 2 (by decide) (hts _ wd_168) (fun _ h9 => h9) rfl dX5_row_73 ?_
      refine wo_get hx hb hts inX3 hown hK hw 3 rfl rfl 3 (by decide) (hts _ wd_96) (fun _ h9 => h9) rfl dX5_row_76 ?_
      refine lv_iload_n hx hb dX5_row_79 rfl (lv_at hl 1 rfl) ?_
      refine wo_iald hx hb hK hw 28 0 rfl rfl r9 rfl (by first | assumption | omega) (by decide) dX5_row_80 ?_
      exact ct_iret (S := S) (v := S.1 28 r9) hx hb hr hlocks hK hw (⟨by rw [rwF, if_pos c_2, ec_r9]; rfl, rfl⟩) dX5_row_81
    by_cases c_6 : wh = nI 3
    · skip
      subst c_6
      refine lv_tableIn (tgt := 82) hx hb dX5_row_14 (by decide) (by decide) rfl (by decide) ?_
      refine lv_aload_n hx hb dX5_row_82 rfl (lv_at hl 0 rfl) ?_
      refine wo_get hx hb hts inX5 hown hK hw 0 rfl rfl 2 (by decide) (hts _ wd_168) (fun _ h9 => h9) rfl dX5_row_83 ?_
      refine wo_get hx hb hts inX3 hown hK hw 3 rfl rfl 4 (by decide) (hts _ wd_98) (fun _ h9 => h9) rfl dX5_row_86 ?_
      refine lv_iload_n hx hb dX5_row_89 rfl (lv_at hl 1 rfl) ?_
      refine wo_iald hx hb hK hw 29 0 rfl rfl r9 rfl (by first | assumption | omega) (by decide) dX5_row_90 ?_
      exact ct_iret (S := S) (v := S.1 29 r9) hx hb hr hlocks hK hw (⟨by rw [rwF, if_pos c_2, ec_r9]; rfl, rfl⟩) dX5_row_91
    by_cases c_7 : wh = nI 4
    · skip
      subst c_7
      refine lv_tableIn (tgt := 92) hx hb dX5_row_14 (by decide) (by decide) rfl (by decide) ?_
      refine lv_aload_n hx hb dX5_row_92 rfl (lv_at hl 0 rfl) ?_
      refine wo_get hx hb hts inX5 hown hK hw 0 rfl rfl 2 (by decide) (hts _ wd_168) (fun _ h9 => h9) rfl dX5_row_93 ?_
      refine wo_get hx hb hts inX3 hown hK hw 3 rfl rfl 5 (by decide) (hts _ wd_100) (fun _ h9 => h9) rfl dX5_row_96 ?_
      refine lv_iload_n hx hb dX5_row_99 rfl (lv_at hl 1 rfl) ?_
      refine wo_iald hx hb hK hw 30 0 rfl rfl r9 rfl (by first | assumption | omega) (by decide) dX5_row_100 ?_
      exact ct_iret (S := S) (v := S.1 30 r9) hx hb hr hlocks hK hw (⟨by rw [rwF, if_pos c_2, ec_r9]; rfl, rfl⟩) dX5_row_101
    by_cases c_8 : wh = nI 5
    · skip
      subst c_8
      refine lv_tableIn (tgt := 102) hx hb dX5_row_14 (by decide) (by decide) rfl (by decide) ?_
      refine lv_aload_n hx hb dX5_row_102 rfl (lv_at hl 0 rfl) ?_
      refine wo_get hx hb hts inX5 hown hK hw 0 rfl rfl 2 (by decide) (hts _ wd_168) (fun _ h9 => h9) rfl dX5_row_103 ?_
      refine wo_get hx hb hts inX3 hown hK hw 3 rfl rfl 6 (by decide) (hts _ wd_102) (fun _ h9 => h9) rfl dX5_row_106 ?_
      refine lv_iload_n hx hb dX5_row_109 rfl (lv_at hl 1 rfl) ?_
      refine wo_iald hx hb hK hw 31 0 rfl rfl r9 rfl (by first | assumption | omega) (by decide) dX5_row_110 ?_
      exact ct_iret (S := S) (v := S.1 31 r9) hx hb hr hlocks hK hw (⟨by rw [rwF, if_pos c_2, ec_r9]; rfl, rfl⟩) dX5_row_111
    refine lv_tableOut (tgt := 112) hx hb dX5_row_14 (by have q0 := lv_neT c_3 (a := 0) (by decide); have q1 := lv_neT c_4 (a := 1) (by decide); have q2 := lv_neT c_5 (a := 2) (by decide); have q3 := lv_neT c_6 (a := 3) (by decide); have q4 := lv_neT c_7 (a := 4) (by decide); have q5 := lv_neT c_8 (a := 5) (by decide); omega) (by decide) ?_
    refine lv_iconst (v := (-1)) hx hb dX5_row_112 (by decide) ?_
    exact ct_iret (S := S) (v := (-1)) hx hb hr hlocks hK hw (⟨by simp only [rwF, rwV, c_2, ec_r9, c_3, c_4, c_5, c_6, c_7, c_8, decide_true, decide_false, Bool.not_true, Bool.not_false, Bool.true_and, Bool.and_true, Bool.false_and, Bool.and_false, Bool.or_true, Bool.true_or, Bool.or_false, Bool.false_or, Bool.false_eq_true, Bool.true_eq_false, if_true, if_false, ↓reduceIte], rfl⟩) dX5_row_113
  · skip
    have c_2 : hrw S rr = false := nb_0 c_2
    refine lv_iconst (v := (-1)) hx hb dX5_row_11 (by decide) ?_
    exact ct_iret (S := S) (v := (-1)) hx hb hr hlocks hK hw (⟨by simp only [rwF, rwV, c_2, decide_true, decide_false, Bool.not_true, Bool.not_false, Bool.true_and, Bool.and_true, Bool.false_and, Bool.and_false, Bool.or_true, Bool.true_or, Bool.or_false, Bool.false_or, Bool.false_eq_true, Bool.true_eq_false, if_true, if_false, ↓reduceIte], rfl⟩) dX5_row_12

set_option maxHeartbeats 4000000 in
set_option maxRecDepth 100000 in
theorem kJ6_bitCount (l : Launch) (dC : Nat → ClassId) (dI : Nat → Nat → Nat) (ca : Nat → ClassId) (ad : Nat → Nat) (S : sSt) (xx : Int32) : ct_I l yJ6_bitCount (Cond.code yJ6_bitCount cJ6_bitCount 1 (some .int) :: wa_T) ({ frames := 0, cells := 0, slots := 0, locals := 0 } : Room) (dC, dI) vwCl (tyl ca) (wc ca ad) S [.int xx] (fun r S2 => r = bcF xx ∧ S2 = S) := by
  refine ct_ofI (by decide) (Nat.le_of_ble_eq_true rfl) ?_
  intro p e s m below meth c A ls hx hb hr hml hts hown hlocks hK hA hw hl
  have hl : lv_has ls 1 [(0, .int xx)] := hl
  refine lv_iload_n hx hb dJ6_bitCount_0 rfl (lv_at hl 0 rfl) ?_
  refine lv_iload_n hx hb dJ6_bitCount_1 rfl (lv_at hl 0 rfl) ?_
  refine lv_iconst (v := nI 1) hx hb dJ6_bitCount_2 (by decide) ?_
  refine lv_iushr hx hb dJ6_bitCount_3 rfl ?_
  refine lv_ldcw hx hb hown (hts _ wd_360) dJ6_bitCount_4 ?_
  refine lv_iand hx hb dJ6_bitCount_7 ?_
  refine lv_isub hx hb dJ6_bitCount_8 ?_
  refine tp_i (y := bc1 xx) rfl ?_
  refine lv_istore_n (lv' := [(0, .int (bc1 xx))]) hx hb dJ6_bitCount_9 rfl hl (by decide) rfl (fun ls hl => ?_)
  refine lv_iload_n hx hb dJ6_bitCount_10 rfl (lv_at hl 0 rfl) ?_
  refine lv_ldcw hx hb hown (hts _ wd_361) dJ6_bitCount_11 ?_
  refine lv_iand hx hb dJ6_bitCount_14 ?_
  refine lv_iload_n hx hb dJ6_bitCount_15 rfl (lv_at hl 0 rfl) ?_
  refine lv_iconst (v := nI 2) hx hb dJ6_bitCount_16 (by decide) ?_
  refine lv_iushr hx hb dJ6_bitCount_17 rfl ?_
  refine lv_ldcw hx hb hown (hts _ wd_361) dJ6_bitCount_18 ?_
  refine lv_iand hx hb dJ6_bitCount_21 ?_
  refine lv_iadd hx hb dJ6_bitCount_22 ?_
  refine tp_i (y := bc2 (bc1 xx)) rfl ?_
  refine lv_istore_n (lv' := [(0, .int (bc2 (bc1 xx)))]) hx hb dJ6_bitCount_23 rfl hl (by decide) rfl (fun ls hl => ?_)
  refine lv_iload_n hx hb dJ6_bitCount_24 rfl (lv_at hl 0 rfl) ?_
  refine lv_iload_n hx hb dJ6_bitCount_25 rfl (lv_at hl 0 rfl) ?_
  refine lv_iconst (v := nI 4) hx hb dJ6_bitCount_26 (by decide) ?_
  refine lv_iushr hx hb dJ6_bitCount_27 rfl ?_
  refine lv_iadd hx hb dJ6_bitCount_28 ?_
  refine lv_ldcw hx hb hown (hts _ wd_362) dJ6_bitCount_29 ?_
  refine lv_iand hx hb dJ6_bitCount_32 ?_
  refine tp_i (y := bc3 (bc2 (bc1 xx))) rfl ?_
  refine lv_istore_n (lv' := [(0, .int (bc3 (bc2 (bc1 xx))))]) hx hb dJ6_bitCount_33 rfl hl (by decide) rfl (fun ls hl => ?_)
  refine lv_iload_n hx hb dJ6_bitCount_34 rfl (lv_at hl 0 rfl) ?_
  refine lv_iload_n hx hb dJ6_bitCount_35 rfl (lv_at hl 0 rfl) ?_
  refine lv_bipush (v := nI 8) hx hb dJ6_bitCount_36 (by decide) ?_
  refine lv_iushr hx hb dJ6_bitCount_38 rfl ?_
  refine lv_iadd hx hb dJ6_bitCount_39 ?_
  refine tp_i (y := bc4 (bc3 (bc2 (bc1 xx)))) rfl ?_
  refine lv_istore_n (lv' := [(0, .int (bc4 (bc3 (bc2 (bc1 xx)))))]) hx hb dJ6_bitCount_40 rfl hl (by decide) rfl (fun ls hl => ?_)
  refine lv_iload_n hx hb dJ6_bitCount_41 rfl (lv_at hl 0 rfl) ?_
  refine lv_iload_n hx hb dJ6_bitCount_42 rfl (lv_at hl 0 rfl) ?_
  refine lv_bipush (v := nI 16) hx hb dJ6_bitCount_43 (by decide) ?_
  refine lv_iushr hx hb dJ6_bitCount_45 rfl ?_
  refine lv_iadd hx hb dJ6_bitCount_46 ?_
  refine tp_i (y := bc5 (bc4 (bc3 (bc2 (bc1 xx))))) rfl ?_
  refine lv_istore_n (lv' := [(0, .int (bc5 (bc4 (bc3 (bc2 (bc1 xx))))))]) hx hb dJ6_bitCount_47 rfl hl (by decide) rfl (fun ls hl => ?_)
  refine lv_iload_n hx hb dJ6_bitCount_48 rfl (lv_at hl 0 rfl) ?_
  refine lv_bipush (v := nI 63) hx hb dJ6_bitCount_49 (by decide) ?_
  refine lv_iand hx hb dJ6_bitCount_51 ?_
  exact ct_iret (S := S) (v := (bc5 (bc4 (bc3 (bc2 (bc1 xx))))) &&& (nI 63)) hx hb hr hlocks hK hw (⟨rfl, rfl⟩) dJ6_bitCount_52

set_option maxHeartbeats 4000000 in
set_option maxRecDepth 100000 in
theorem kX5_person (l : Launch) (dC : Nat → ClassId) (dI : Nat → Nat → Nat) (ca : Nat → ClassId) (ad : Nat → Nat) (S : sSt) (pp : Int32) (wh : Int32) : ct_I l yX5_person (Cond.code yX5_person cX5_person 3 (some .int) :: wa_T) ({ frames := 1, cells := 0, slots := 0, locals := 20 } : Room) (dC, dI) vwCl (tyl ca) (wc ca ad) S [.ref (ad 0), .int pp, .int wh] (fun r S2 => r = psF S pp wh ∧ S2 = S) := by
  refine ct_ofI (by decide) (Nat.le_of_ble_eq_true rfl) ?_
  intro p e s m below meth c A ls hx hb hr hml hts hown hlocks hK hA hw hl
  have hl : lv_has ls 3 [(0, .ref (ad 0)), (1, .int pp), (2, .int wh)] := hl
  refine lv_iload_n hx hb dX5_person_0 rfl (lv_at hl 1 rfl) ?_
  refine wo_sI (As := [.int pp]) (rest := []) (kX1_has l dC dI ca ad S pp) ⟨hx, hb, hml, hown, hts⟩ (va_cwS 1 hts (wa_gS wd_344 wd_197 wd_2 wd_198) rfl rfl rfl (by decide +kernel) ⟨Nat.le_of_ble_eq_true rfl, Nat.le_of_ble_eq_true rfl⟩) hK hw hA rfl hl.1 rfl (Nat.le_of_ble_eq_true rfl) dX5_person_1 ⟨Nat.zero_le _, Nat.zero_le _⟩ (fun r_1 S_1 H locs hp_1 hw => ?_)
  have e9 := hp_1.1.symm
  subst e9
  have e9 := hp_1.2.symm
  subst e9
  refine lv_if_ne (tgt := 9) hx hb dX5_person_4 (by decide) (fun c_2 => ?_) (fun c_2 => ?_)
  · skip
    have c_2 : h6 pp = true := nb_1 c_2
    obtain ⟨p9, hp9, rfl⟩ := h6_n c_2
    have ec_p9 := nI_clamp (n := p9) (by omega)
    refine lv_iload_n hx hb dX5_person_9 rfl (lv_at hl 2 rfl) ?_
    by_cases c_3 : wh = nI 0
    · skip
      subst c_3
      refine lv_tableIn (tgt := 40) hx hb dX5_person_10 (by decide) (by decide) rfl (by decide) ?_
      refine lv_aload_n hx hb dX5_person_40 rfl (lv_at hl 0 rfl) ?_
      refine wo_get hx hb hts inX5 hown hK hw 0 rfl rfl 0 (by decide) (hts _ wd_166) (fun _ h9 => h9) rfl dX5_person_41 ?_
      refine wo_get hx hb hts inX1 hown hK hw 1 rfl rfl 2 (by decide) (hts _ wd_40) (fun _ h9 => h9) rfl dX5_person_44 ?_
      refine lv_iload_n hx hb dX5_person_47 rfl (lv_at hl 1 rfl) ?_
      refine wo_iald hx hb hK hw 8 0 rfl rfl p9 rfl (by first | assumption | omega) (by decide) dX5_person_48 ?_
      exact ct_iret (S := S) (v := S.1 8 p9) hx hb hr hlocks hK hw (⟨by rw [psF, if_pos c_2, ec_p9]; rfl, rfl⟩) dX5_person_49
    by_cases c_4 : wh = nI 1
    · skip
      subst c_4
      refine lv_tableIn (tgt := 50) hx hb dX5_person_10 (by decide) (by decide) rfl (by decide) ?_
      refine lv_aload_n hx hb dX5_person_50 rfl (lv_at hl 0 rfl) ?_
      refine wo_get hx hb hts inX5 hown hK hw 0 rfl rfl 0 (by decide) (hts _ wd_166) (fun _ h9 => h9) rfl dX5_person_51 ?_
      refine wo_get hx hb hts inX1 hown hK hw 1 rfl rfl 1 (by decide) (hts _ wd_38) (fun _ h9 => h9) rfl dX5_person_54 ?_
      refine lv_iload_n hx hb dX5_person_57 rfl (lv_at hl 1 rfl) ?_
      refine wo_zald hx hb hK hw 7 2 rfl rfl p9 rfl (by first | assumption | omega) (by decide) dX5_person_58 ?_
      refine lv_if_eq (tgt := 66) hx hb dX5_person_59 (by decide) (fun c_5 => ?_) (fun c_5 => ?_)
      · skip
        refine lv_iconst (v := nI 0) hx hb dX5_person_66 (by decide) ?_
        exact ct_iret (S := S) (v := nI 0) hx hb hr hlocks hK hw (⟨by rw [psF, if_pos c_2, ec_p9]; show _ = (if S.1 7 p9 = 0 then nI 0 else nI 1); simp only [c_5, decide_true, decide_false, Bool.not_true, Bool.not_false, Bool.true_and, Bool.and_true, Bool.false_and, Bool.and_false, Bool.or_true, Bool.true_or, Bool.or_false, Bool.false_or, Bool.false_eq_true, Bool.true_eq_false, if_true, if_false, ↓reduceIte], rfl⟩) dX5_person_67
      · skip
        refine lv_iconst (v := nI 1) hx hb dX5_person_62 (by decide) ?_
        refine lv_goto (tgt := 67) hx hb dX5_person_63 (by decide) ?_
        exact ct_iret (S := S) (v := nI 1) hx hb hr hlocks hK hw (⟨by rw [psF, if_pos c_2, ec_p9]; show _ = (if S.1 7 p9 = 0 then nI 0 else nI 1); simp only [c_5, decide_true, decide_false, Bool.not_true, Bool.not_false, Bool.true_and, Bool.and_true, Bool.false_and, Bool.and_false, Bool.or_true, Bool.true_or, Bool.or_false, Bool.false_or, Bool.false_eq_true, Bool.true_eq_false, if_true, if_false, ↓reduceIte], rfl⟩) dX5_person_67
    by_cases c_6 : wh = nI 2
    · skip
      subst c_6
      refine lv_tableIn (tgt := 68) hx hb dX5_person_10 (by decide) (by decide) rfl (by decide) ?_
      refine lv_aload_n hx hb dX5_person_68 rfl (lv_at hl 0 rfl) ?_
      refine wo_get hx hb hts inX5 hown hK hw 0 rfl rfl 3 (by decide) (hts _ wd_169) (fun _ h9 => h9) rfl dX5_person_69 ?_
      refine wo_get hx hb hts inX2 hown hK hw 4 rfl rfl 0 (by decide) (hts _ wd_136) (fun _ h9 => h9) rfl dX5_person_72 ?_
      refine lv_iload_n hx hb dX5_person_75 rfl (lv_at hl 1 rfl) ?_
      refine wo_iald hx hb hK hw 34 0 rfl rfl p9 rfl (by first | assumption | omega) (by decide) dX5_person_76 ?_
      exact ct_iret (S := S) (v := S.1 34 p9) hx hb hr hlocks hK hw (⟨by rw [psF, if_pos c_2, ec_p9]; rfl, rfl⟩) dX5_person_77
    by_cases c_7 : wh = nI 3
    · skip
      subst c_7
      refine lv_tableIn (tgt := 78) hx hb dX5_person_10 (by decide) (by decide) rfl (by decide) ?_
      refine lv_aload_n hx hb dX5_person_78 rfl (lv_at hl 0 rfl) ?_
      refine wo_get hx hb hts inX5 hown hK hw 0 rfl rfl 0 (by decide) (hts _ wd_166) (fun _ h9 => h9) rfl dX5_person_79 ?_
      refine wo_get hx hb hts inX1 hown hK hw 1 rfl rfl 3 (by decide) (hts _ wd_42) (fun _ h9 => h9) rfl dX5_person_82 ?_
      refine lv_iload_n hx hb dX5_person_85 rfl (lv_at hl 1 rfl) ?_
      refine wo_iald hx hb hK hw 9 0 rfl rfl p9 rfl (by first | assumption | omega) (by decide) dX5_person_86 ?_
      refine wo_sI (As := [.int (S.1 9 p9)]) (rest := []) (kJ6_bitCount l dC dI ca ad S (S.1 9 p9)) ⟨hx, hb, hml, hown, hts⟩ (va_cwS 1 hts (wa_gS wd_357 wd_358 wd_17 wd_359) rfl rfl rfl (by decide +kernel) ⟨Nat.le_of_ble_eq_true rfl, Nat.le_of_ble_eq_true rfl⟩) hK hw hA rfl hl.1 rfl (Nat.le_of_ble_eq_true rfl) dX5_person_87 ⟨Nat.zero_le _, Nat.zero_le _⟩ (fun r_8 S_8 H locs hp_8 hw => ?_)
      have e9 := hp_8.1.symm
      subst e9
      have e9 := hp_8.2.symm
      subst e9
      exact ct_iret (S := S) (v := bcF (S.1 9 p9)) hx hb hr hlocks hK hw (⟨by rw [psF, if_pos c_2, ec_p9]; rfl, rfl⟩) dX5_person_90
    refine lv_tableOut (tgt := 91) hx hb dX5_person_10 (by have q0 := lv_neT c_3 (a := 0) (by decide); have q1 := lv_neT c_4 (a := 1) (by decide); have q2 := lv_neT c_6 (a := 2) (by decide); have q3 := lv_neT c_7 (a := 3) (by decide); omega) (by decide) ?_
    refine lv_iconst (v := (-1)) hx hb dX5_person_91 (by decide) ?_
    exact ct_iret (S := S) (v := (-1)) hx hb hr hlocks hK hw (⟨by simp only [psF, psV, c_2, ec_p9, c_3, c_4, c_6, c_7, decide_true, decide_false, Bool.not_true, Bool.not_false, Bool.true_and, Bool.and_true, Bool.false_and, Bool.and_false, Bool.or_true, Bool.true_or, Bool.or_false, Bool.false_or, Bool.false_eq_true, Bool.true_eq_false, if_true, if_false, ↓reduceIte], rfl⟩) dX5_person_92
  · skip
    have c_2 : h6 pp = false := nb_0 c_2
    refine lv_iconst (v := (-1)) hx hb dX5_person_7 (by decide) ?_
    exact ct_iret (S := S) (v := (-1)) hx hb hr hlocks hK hw (⟨by simp only [psF, psV, c_2, decide_true, decide_false, Bool.not_true, Bool.not_false, Bool.true_and, Bool.and_true, Bool.false_and, Bool.and_false, Bool.or_true, Bool.true_or, Bool.or_false, Bool.false_or, Bool.false_eq_true, Bool.true_eq_false, if_true, if_false, ↓reduceIte], rfl⟩) dX5_person_8

set_option maxHeartbeats 4000000 in
set_option maxRecDepth 100000 in
theorem kX5_total (l : Launch) (dC : Nat → ClassId) (dI : Nat → Nat → Nat) (ca : Nat → ClassId) (ad : Nat → Nat) (S : sSt) (wh : Int32) : ct_I l yX5_total (Cond.code yX5_total cX5_total 2 (some .int) :: wa_T) ({ frames := 0, cells := 0, slots := 0, locals := 0 } : Room) (dC, dI) vwCl (tyl ca) (wc ca ad) S [.ref (ad 0), .int wh] (fun r S2 => r = ttF S wh ∧ S2 = S) := by
  refine ct_ofI (by decide) (Nat.le_of_ble_eq_true rfl) ?_
  intro p e s m below meth c A ls hx hb hr hml hts hown hlocks hK hA hw hl
  have hl : lv_has ls 2 [(0, .ref (ad 0)), (1, .int wh)] := hl
  refine lv_iload_n hx hb dX5_total_0 rfl (lv_at hl 1 rfl) ?_
  by_cases c_1 : wh = nI 0
  · skip
    subst c_1
    refine lv_tableIn (tgt := 32) hx hb dX5_total_1 (by decide) (by decide) rfl (by decide) ?_
    refine lv_aload_n hx hb dX5_total_32 rfl (lv_at hl 0 rfl) ?_
    refine wo_get hx hb hts inX5 hown hK hw 0 rfl rfl 1 (by decide) (hts _ wd_167) (fun _ h9 => h9) rfl dX5_total_33 ?_
    refine wo_get hx hb hts inX0 hown hK hw 2 rfl rfl 0 (by decide) (hts _ wd_64) (fun _ h9 => h9) rfl dX5_total_36 ?_
    exact ct_iret (S := S) (v := S.1 2 0) hx hb hr hlocks hK hw (⟨rfl, rfl⟩) dX5_total_39
  by_cases c_2 : wh = nI 1
  · skip
    subst c_2
    refine lv_tableIn (tgt := 40) hx hb dX5_total_1 (by decide) (by decide) rfl (by decide) ?_
    refine lv_aload_n hx hb dX5_total_40 rfl (lv_at hl 0 rfl) ?_
    refine wo_get hx hb hts inX5 hown hK hw 0 rfl rfl 2 (by decide) (hts _ wd_168) (fun _ h9 => h9) rfl dX5_total_41 ?_
    refine wo_get hx hb hts inX3 hown hK hw 3 rfl rfl 0 (by decide) (hts _ wd_90) (fun _ h9 => h9) rfl dX5_total_44 ?_
    exact ct_iret (S := S) (v := S.1 3 0) hx hb hr hlocks hK hw (⟨rfl, rfl⟩) dX5_total_47
  by_cases c_3 : wh = nI 2
  · skip
    subst c_3
    refine lv_tableIn (tgt := 48) hx hb dX5_total_1 (by decide) (by decide) rfl (by decide) ?_
    refine lv_aload_n hx hb dX5_total_48 rfl (lv_at hl 0 rfl) ?_
    refine wo_get hx hb hts inX5 hown hK hw 0 rfl rfl 5 (by decide) (hts _ wd_171) (fun _ h9 => h9) rfl dX5_total_49 ?_
    exact ct_iret (S := S) (v := S.1 0 5) hx hb hr hlocks hK hw (⟨rfl, rfl⟩) dX5_total_52
  by_cases c_4 : wh = nI 3
  · skip
    subst c_4
    refine lv_tableIn (tgt := 53) hx hb dX5_total_1 (by decide) (by decide) rfl (by decide) ?_
    refine lv_aload_n hx hb dX5_total_53 rfl (lv_at hl 0 rfl) ?_
    refine wo_get hx hb hts inX5 hown hK hw 0 rfl rfl 6 (by decide) (hts _ wd_172) (fun _ h9 => h9) rfl dX5_total_54 ?_
    exact ct_iret (S := S) (v := S.1 0 6) hx hb hr hlocks hK hw (⟨rfl, rfl⟩) dX5_total_57
  refine lv_tableOut (tgt := 58) hx hb dX5_total_1 (by have q0 := lv_neT c_1 (a := 0) (by decide); have q1 := lv_neT c_2 (a := 1) (by decide); have q2 := lv_neT c_3 (a := 2) (by decide); have q3 := lv_neT c_4 (a := 3) (by decide); omega) (by decide) ?_
  refine lv_iconst (v := (-1)) hx hb dX5_total_58 (by decide) ?_
  exact ct_iret (S := S) (v := (-1)) hx hb hr hlocks hK hw (⟨by simp only [ttF, c_1, c_2, c_3, c_4, decide_true, decide_false, Bool.not_true, Bool.not_false, Bool.true_and, Bool.and_true, Bool.false_and, Bool.and_false, Bool.or_true, Bool.true_or, Bool.or_false, Bool.false_or, Bool.false_eq_true, Bool.true_eq_false, if_true, if_false, ↓reduceIte], rfl⟩) dX5_total_59
