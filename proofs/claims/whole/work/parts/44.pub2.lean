theorem dX5_deliver_0 : decode cX5_deliver 0 = .ok (.aload_n 0, 1) := by decide +kernel
theorem dX5_deliver_1 : decode cX5_deliver 1 = .ok (.getfield 26, 3) := by decide +kernel
theorem dX5_deliver_4 : decode cX5_deliver 4 = .ok (.iload_n 1, 1) := by decide +kernel
theorem dX5_deliver_5 : decode cX5_deliver 5 = .ok (.invokevirtual 147, 3) := by decide +kernel
theorem dX5_deliver_8 : decode cX5_deliver 8 = .ok (.ifCond .eq 16, 3) := by decide +kernel
theorem dX5_deliver_11 : decode cX5_deliver 11 = .ok (.aload_n 0, 1) := by decide +kernel
theorem dX5_deliver_12 : decode cX5_deliver 12 = .ok (.getfield 26, 3) := by decide +kernel
theorem dX5_deliver_15 : decode cX5_deliver 15 = .ok (.getfield 148, 3) := by decide +kernel
theorem dX5_deliver_18 : decode cX5_deliver 18 = .ok (.iload_n 1, 1) := by decide +kernel
theorem dX5_deliver_19 : decode cX5_deliver 19 = .ok (.iaload, 1) := by decide +kernel
theorem dX5_deliver_20 : decode cX5_deliver 20 = .ok (.iconst 2, 1) := by decide +kernel
theorem dX5_deliver_21 : decode cX5_deliver 21 = .ok (.if_icmp .ne 5, 3) := by decide +kernel
theorem dX5_deliver_24 : decode cX5_deliver 24 = .ok (.iconst (-1), 1) := by decide +kernel
theorem dX5_deliver_25 : decode cX5_deliver 25 = .ok (.ireturn, 1) := by decide +kernel
theorem dX5_deliver_26 : decode cX5_deliver 26 = .ok (.aload_n 0, 1) := by decide +kernel
theorem dX5_deliver_27 : decode cX5_deliver 27 = .ok (.getfield 26, 3) := by decide +kernel
theorem dX5_deliver_30 : decode cX5_deliver 30 = .ok (.getfield 152, 3) := by decide +kernel
theorem dX5_deliver_33 : decode cX5_deliver 33 = .ok (.iload_n 1, 1) := by decide +kernel
theorem dX5_deliver_34 : decode cX5_deliver 34 = .ok (.dup2, 1) := by decide +kernel
theorem dX5_deliver_35 : decode cX5_deliver 35 = .ok (.iaload, 1) := by decide +kernel
theorem dX5_deliver_36 : decode cX5_deliver 36 = .ok (.iconst 1, 1) := by decide +kernel
theorem dX5_deliver_37 : decode cX5_deliver 37 = .ok (.iadd, 1) := by decide +kernel
theorem dX5_deliver_38 : decode cX5_deliver 38 = .ok (.iastore, 1) := by decide +kernel
theorem dX5_deliver_39 : decode cX5_deliver 39 = .ok (.aload_n 0, 1) := by decide +kernel
theorem dX5_deliver_40 : decode cX5_deliver 40 = .ok (.getfield 26, 3) := by decide +kernel
theorem dX5_deliver_43 : decode cX5_deliver 43 = .ok (.getfield 148, 3) := by decide +kernel
theorem dX5_deliver_46 : decode cX5_deliver 46 = .ok (.iload_n 1, 1) := by decide +kernel
theorem dX5_deliver_47 : decode cX5_deliver 47 = .ok (.iaload, 1) := by decide +kernel
theorem dX5_deliver_48 : decode cX5_deliver 48 = .ok (.iconst 1, 1) := by decide +kernel
theorem dX5_deliver_49 : decode cX5_deliver 49 = .ok (.if_icmp .ne 5, 3) := by decide +kernel
theorem dX5_deliver_52 : decode cX5_deliver 52 = .ok (.iconst 0, 1) := by decide +kernel
theorem dX5_deliver_53 : decode cX5_deliver 53 = .ok (.ireturn, 1) := by decide +kernel
theorem dX5_deliver_54 : decode cX5_deliver 54 = .ok (.aload_n 0, 1) := by decide +kernel
theorem dX5_deliver_55 : decode cX5_deliver 55 = .ok (.getfield 26, 3) := by decide +kernel
theorem dX5_deliver_58 : decode cX5_deliver 58 = .ok (.getfield 148, 3) := by decide +kernel
theorem dX5_deliver_61 : decode cX5_deliver 61 = .ok (.iload_n 1, 1) := by decide +kernel
theorem dX5_deliver_62 : decode cX5_deliver 62 = .ok (.iconst 1, 1) := by decide +kernel
theorem dX5_deliver_63 : decode cX5_deliver 63 = .ok (.iastore, 1) := by decide +kernel
theorem dX5_deliver_64 : decode cX5_deliver 64 = .ok (.aload_n 0, 1) := by decide +kernel
theorem dX5_deliver_65 : decode cX5_deliver 65 = .ok (.aload_n 0, 1) := by decide +kernel
theorem dX5_deliver_66 : decode cX5_deliver 66 = .ok (.getfield 26, 3) := by decide +kernel
theorem dX5_deliver_69 : decode cX5_deliver 69 = .ok (.getfield 155, 3) := by decide +kernel
theorem dX5_deliver_72 : decode cX5_deliver 72 = .ok (.iload_n 1, 1) := by decide +kernel
theorem dX5_deliver_73 : decode cX5_deliver 73 = .ok (.iaload, 1) := by decide +kernel
theorem dX5_deliver_74 : decode cX5_deliver 74 = .ok (.aload_n 0, 1) := by decide +kernel
theorem dX5_deliver_75 : decode cX5_deliver 75 = .ok (.getfield 26, 3) := by decide +kernel
theorem dX5_deliver_78 : decode cX5_deliver 78 = .ok (.getfield 158, 3) := by decide +kernel
theorem dX5_deliver_81 : decode cX5_deliver 81 = .ok (.iload_n 1, 1) := by decide +kernel
theorem dX5_deliver_82 : decode cX5_deliver 82 = .ok (.iaload, 1) := by decide +kernel
theorem dX5_deliver_83 : decode cX5_deliver 83 = .ok (.aload_n 0, 1) := by decide +kernel
theorem dX5_deliver_84 : decode cX5_deliver 84 = .ok (.getfield 26, 3) := by decide +kernel
theorem dX5_deliver_87 : decode cX5_deliver 87 = .ok (.getfield 161, 3) := by decide +kernel
theorem dX5_deliver_90 : decode cX5_deliver 90 = .ok (.iload_n 1, 1) := by decide +kernel
theorem dX5_deliver_91 : decode cX5_deliver 91 = .ok (.iaload, 1) := by decide +kernel
theorem dX5_deliver_92 : decode cX5_deliver 92 = .ok (.aload_n 0, 1) := by decide +kernel
theorem dX5_deliver_93 : decode cX5_deliver 93 = .ok (.getfield 26, 3) := by decide +kernel
theorem dX5_deliver_96 : decode cX5_deliver 96 = .ok (.iload_n 1, 1) := by decide +kernel
theorem dX5_deliver_97 : decode cX5_deliver 97 = .ok (.invokevirtual 164, 3) := by decide +kernel
theorem dX5_deliver_100 : decode cX5_deliver 100 = .ok (.invokevirtual 168, 3) := by decide +kernel
theorem dX5_deliver_103 : decode cX5_deliver 103 = .ok (.iconst 1, 1) := by decide +kernel
theorem dX5_deliver_104 : decode cX5_deliver 104 = .ok (.ireturn, 1) := by decide +kernel

theorem dX5_lose_0 : decode cX5_lose 0 = .ok (.aload_n 0, 1) := by decide +kernel
theorem dX5_lose_1 : decode cX5_lose 1 = .ok (.getfield 26, 3) := by decide +kernel
theorem dX5_lose_4 : decode cX5_lose 4 = .ok (.iload_n 1, 1) := by decide +kernel
theorem dX5_lose_5 : decode cX5_lose 5 = .ok (.invokevirtual 147, 3) := by decide +kernel
theorem dX5_lose_8 : decode cX5_lose 8 = .ok (.ifCond .eq 15, 3) := by decide +kernel
theorem dX5_lose_11 : decode cX5_lose 11 = .ok (.aload_n 0, 1) := by decide +kernel
theorem dX5_lose_12 : decode cX5_lose 12 = .ok (.getfield 26, 3) := by decide +kernel
theorem dX5_lose_15 : decode cX5_lose 15 = .ok (.getfield 148, 3) := by decide +kernel
theorem dX5_lose_18 : decode cX5_lose 18 = .ok (.iload_n 1, 1) := by decide +kernel
theorem dX5_lose_19 : decode cX5_lose 19 = .ok (.iaload, 1) := by decide +kernel
theorem dX5_lose_20 : decode cX5_lose 20 = .ok (.ifCond .eq 5, 3) := by decide +kernel
theorem dX5_lose_23 : decode cX5_lose 23 = .ok (.iconst 0, 1) := by decide +kernel
theorem dX5_lose_24 : decode cX5_lose 24 = .ok (.ireturn, 1) := by decide +kernel
theorem dX5_lose_25 : decode cX5_lose 25 = .ok (.aload_n 0, 1) := by decide +kernel
theorem dX5_lose_26 : decode cX5_lose 26 = .ok (.getfield 26, 3) := by decide +kernel
theorem dX5_lose_29 : decode cX5_lose 29 = .ok (.getfield 148, 3) := by decide +kernel
theorem dX5_lose_32 : decode cX5_lose 32 = .ok (.iload_n 1, 1) := by decide +kernel
theorem dX5_lose_33 : decode cX5_lose 33 = .ok (.iconst 2, 1) := by decide +kernel
theorem dX5_lose_34 : decode cX5_lose 34 = .ok (.iastore, 1) := by decide +kernel
theorem dX5_lose_35 : decode cX5_lose 35 = .ok (.iconst 1, 1) := by decide +kernel
theorem dX5_lose_36 : decode cX5_lose 36 = .ok (.ireturn, 1) := by decide +kernel

theorem dX5_end_0 : decode cX5_end 0 = .ok (.aload_n 0, 1) := by decide +kernel
theorem dX5_end_1 : decode cX5_end 1 = .ok (.getfield 10, 3) := by decide +kernel
theorem dX5_end_4 : decode cX5_end 4 = .ok (.iload_n 1, 1) := by decide +kernel
theorem dX5_end_5 : decode cX5_end 5 = .ok (.invokevirtual 44, 3) := by decide +kernel
theorem dX5_end_8 : decode cX5_end 8 = .ok (.ifCond .ne 5, 3) := by decide +kernel
theorem dX5_end_11 : decode cX5_end 11 = .ok (.iconst 0, 1) := by decide +kernel
theorem dX5_end_12 : decode cX5_end 12 = .ok (.ireturn, 1) := by decide +kernel
theorem dX5_end_13 : decode cX5_end 13 = .ok (.aload_n 0, 1) := by decide +kernel
theorem dX5_end_14 : decode cX5_end 14 = .ok (.getfield 10, 3) := by decide +kernel
theorem dX5_end_17 : decode cX5_end 17 = .ok (.getfield 172, 3) := by decide +kernel
theorem dX5_end_20 : decode cX5_end 20 = .ok (.iload_n 1, 1) := by decide +kernel
theorem dX5_end_21 : decode cX5_end 21 = .ok (.iconst 1, 1) := by decide +kernel
theorem dX5_end_22 : decode cX5_end 22 = .ok (.iastore, 1) := by decide +kernel
theorem dX5_end_23 : decode cX5_end 23 = .ok (.aload_n 0, 1) := by decide +kernel
theorem dX5_end_24 : decode cX5_end 24 = .ok (.getfield 33, 3) := by decide +kernel
theorem dX5_end_27 : decode cX5_end 27 = .ok (.iload_n 1, 1) := by decide +kernel
theorem dX5_end_28 : decode cX5_end 28 = .ok (.invokevirtual 173, 3) := by decide +kernel
theorem dX5_end_31 : decode cX5_end 31 = .ok (.iconst 0, 1) := by decide +kernel
theorem dX5_end_32 : decode cX5_end 32 = .ok (.istore_n 2, 1) := by decide +kernel
theorem dX5_end_33 : decode cX5_end 33 = .ok (.iload_n 2, 1) := by decide +kernel
theorem dX5_end_34 : decode cX5_end 34 = .ok (.bipush 6, 2) := by decide +kernel
theorem dX5_end_36 : decode cX5_end 36 = .ok (.if_icmp .ge 25, 3) := by decide +kernel
theorem dX5_end_39 : decode cX5_end 39 = .ok (.aload_n 0, 1) := by decide +kernel
theorem dX5_end_40 : decode cX5_end 40 = .ok (.getfield 10, 3) := by decide +kernel
theorem dX5_end_43 : decode cX5_end 43 = .ok (.iload_n 2, 1) := by decide +kernel
theorem dX5_end_44 : decode cX5_end 44 = .ok (.invokevirtual 177, 3) := by decide +kernel
theorem dX5_end_47 : decode cX5_end 47 = .ok (.ifCond .eq 8, 3) := by decide +kernel
theorem dX5_end_50 : decode cX5_end 50 = .ok (.aload_n 0, 1) := by decide +kernel
theorem dX5_end_51 : decode cX5_end 51 = .ok (.iload_n 2, 1) := by decide +kernel
theorem dX5_end_52 : decode cX5_end 52 = .ok (.invokevirtual 180, 3) := by decide +kernel
theorem dX5_end_55 : decode cX5_end 55 = .ok (.iinc 2 1, 3) := by decide +kernel
theorem dX5_end_58 : decode cX5_end 58 = .ok (.goto (-25), 3) := by decide +kernel
theorem dX5_end_61 : decode cX5_end 61 = .ok (.iconst 1, 1) := by decide +kernel
theorem dX5_end_62 : decode cX5_end 62 = .ok (.ireturn, 1) := by decide +kernel

theorem dX5_vouch_0 : decode cX5_vouch 0 = .ok (.aload_n 0, 1) := by decide +kernel
theorem dX5_vouch_1 : decode cX5_vouch 1 = .ok (.getfield 10, 3) := by decide +kernel
theorem dX5_vouch_4 : decode cX5_vouch 4 = .ok (.iload_n 1, 1) := by decide +kernel
theorem dX5_vouch_5 : decode cX5_vouch 5 = .ok (.invokevirtual 44, 3) := by decide +kernel
theorem dX5_vouch_8 : decode cX5_vouch 8 = .ok (.ifCond .eq 22, 3) := by decide +kernel
theorem dX5_vouch_11 : decode cX5_vouch 11 = .ok (.iload_n 2, 1) := by decide +kernel
theorem dX5_vouch_12 : decode cX5_vouch 12 = .ok (.invokestatic 183, 3) := by decide +kernel
theorem dX5_vouch_15 : decode cX5_vouch 15 = .ok (.ifCond .eq 15, 3) := by decide +kernel
theorem dX5_vouch_18 : decode cX5_vouch 18 = .ok (.aload_n 0, 1) := by decide +kernel
theorem dX5_vouch_19 : decode cX5_vouch 19 = .ok (.getfield 10, 3) := by decide +kernel
theorem dX5_vouch_22 : decode cX5_vouch 22 = .ok (.getfield 172, 3) := by decide +kernel
theorem dX5_vouch_25 : decode cX5_vouch 25 = .ok (.iload_n 2, 1) := by decide +kernel
theorem dX5_vouch_26 : decode cX5_vouch 26 = .ok (.iaload, 1) := by decide +kernel
theorem dX5_vouch_27 : decode cX5_vouch 27 = .ok (.ifCond .ne 5, 3) := by decide +kernel
theorem dX5_vouch_30 : decode cX5_vouch 30 = .ok (.iconst (-1), 1) := by decide +kernel
theorem dX5_vouch_31 : decode cX5_vouch 31 = .ok (.ireturn, 1) := by decide +kernel
theorem dX5_vouch_32 : decode cX5_vouch 32 = .ok (.aload_n 0, 1) := by decide +kernel
theorem dX5_vouch_33 : decode cX5_vouch 33 = .ok (.getfield 10, 3) := by decide +kernel
theorem dX5_vouch_36 : decode cX5_vouch 36 = .ok (.getfield 172, 3) := by decide +kernel
theorem dX5_vouch_39 : decode cX5_vouch 39 = .ok (.iload_n 2, 1) := by decide +kernel
theorem dX5_vouch_40 : decode cX5_vouch 40 = .ok (.iaload, 1) := by decide +kernel
theorem dX5_vouch_41 : decode cX5_vouch 41 = .ok (.iconst 2, 1) := by decide +kernel
theorem dX5_vouch_42 : decode cX5_vouch 42 = .ok (.if_icmp .eq 15, 3) := by decide +kernel
theorem dX5_vouch_45 : decode cX5_vouch 45 = .ok (.aload_n 0, 1) := by decide +kernel
theorem dX5_vouch_46 : decode cX5_vouch 46 = .ok (.getfield 10, 3) := by decide +kernel
theorem dX5_vouch_49 : decode cX5_vouch 49 = .ok (.iload_n 1, 1) := by decide +kernel
theorem dX5_vouch_50 : decode cX5_vouch 50 = .ok (.iload_n 2, 1) := by decide +kernel
theorem dX5_vouch_51 : decode cX5_vouch 51 = .ok (.invokevirtual 184, 3) := by decide +kernel
theorem dX5_vouch_54 : decode cX5_vouch 54 = .ok (.ifCond .ne 5, 3) := by decide +kernel
theorem dX5_vouch_57 : decode cX5_vouch 57 = .ok (.iconst 0, 1) := by decide +kernel
theorem dX5_vouch_58 : decode cX5_vouch 58 = .ok (.ireturn, 1) := by decide +kernel
theorem dX5_vouch_59 : decode cX5_vouch 59 = .ok (.aload_n 0, 1) := by decide +kernel
theorem dX5_vouch_60 : decode cX5_vouch 60 = .ok (.getfield 10, 3) := by decide +kernel
theorem dX5_vouch_63 : decode cX5_vouch 63 = .ok (.iload_n 2, 1) := by decide +kernel
theorem dX5_vouch_64 : decode cX5_vouch 64 = .ok (.invokevirtual 177, 3) := by decide +kernel
theorem dX5_vouch_67 : decode cX5_vouch 67 = .ok (.ifCond .ne 5, 3) := by decide +kernel
theorem dX5_vouch_70 : decode cX5_vouch 70 = .ok (.iconst 1, 1) := by decide +kernel
theorem dX5_vouch_71 : decode cX5_vouch 71 = .ok (.ireturn, 1) := by decide +kernel
theorem dX5_vouch_72 : decode cX5_vouch 72 = .ok (.aload_n 0, 1) := by decide +kernel
theorem dX5_vouch_73 : decode cX5_vouch 73 = .ok (.iload_n 2, 1) := by decide +kernel
theorem dX5_vouch_74 : decode cX5_vouch 74 = .ok (.invokevirtual 180, 3) := by decide +kernel
theorem dX5_vouch_77 : decode cX5_vouch 77 = .ok (.iconst 2, 1) := by decide +kernel
theorem dX5_vouch_78 : decode cX5_vouch 78 = .ok (.ireturn, 1) := by decide +kernel

set_option maxHeartbeats 4000000 in
set_option maxRecDepth 100000 in
theorem kX5_deliver (l : Launch) (dC : Nat → ClassId) (dI : Nat → Nat → Nat) (ca : Nat → ClassId) (ad : Nat → Nat) (S : sSt) (rr : Int32) (nb : Nat) (nr : Nat) (hb6 : nb ≤ 6) (hr2 : nr ≤ 200) (hri : RI nb nr S) (hrows : RW nb nr S) : ct_I l yX5_deliver (Cond.code yX5_deliver cX5_deliver 2 (some .int) :: wa_T) ({ frames := 4, cells := 0, slots := 0, locals := 98 } : Room) (dC, dI) vwCl (tyl ca) (wc ca ad) S [.ref (ad 0), .int rr] (fun r S2 => r = (dlF S rr).1 ∧ S2 = (dlF S rr).2) := by
  refine ct_ofI (by decide) (Nat.le_of_ble_eq_true rfl) ?_
  intro p e s m below meth c A ls hx hb hr hml hts hown hlocks hK hA hw hl
  have hl : lv_has ls 2 [(0, .ref (ad 0)), (1, .int rr)] := hl
  refine lv_aload_n hx hb dX5_deliver_0 rfl (lv_at hl 0 rfl) ?_
  refine wo_get hx hb hts inX5 hown hK hw 0 rfl rfl 2 (by decide) (hts _ wd_168) (fun _ h9 => h9) rfl dX5_deliver_1 ?_
  refine lv_iload_n hx hb dX5_deliver_4 rfl (lv_at hl 1 rfl) ?_
  refine wo_vI (As := [.int rr]) (rest := []) (kX3_has l dC dI ca ad S rr) ⟨hx, hb, hml, hown, hts⟩ (cwV 1 hts (wa_gV wd_269 wd_270 wd_271 wd_5 wd_272) rfl rfl rfl (by decide +kernel) ⟨Nat.le_of_ble_eq_true rfl, Nat.le_of_ble_eq_true rfl⟩) hK hw hA 3 rfl rfl rfl rfl hl.1 rfl (Nat.le_of_ble_eq_true rfl) dX5_deliver_5 ⟨Nat.zero_le _, Nat.zero_le _⟩ (fun r_1 S_1 H locs hp_1 hw => ?_)
  have e9 := hp_1.1.symm
  subst e9
  have e9 := hp_1.2.symm
  subst e9
  refine lv_if_eq (tgt := 24) hx hb dX5_deliver_8 (by decide) (fun c_2 => ?_) (fun c_2 => ?_)
  · skip
    have c_2 : hrw S rr = false := nb_0 c_2
    refine lv_iconst (v := (-1)) hx hb dX5_deliver_24 (by decide) ?_
    exact ct_iret (S := S) (v := (-1)) hx hb hr hlocks hK hw (⟨by simp only [dlF, dlR, c_2, decide_true, decide_false, Bool.not_true, Bool.not_false, Bool.true_and, Bool.and_true, Bool.false_and, Bool.and_false, Bool.or_true, Bool.true_or, Bool.or_false, Bool.false_or, Bool.false_eq_true, Bool.true_eq_false, if_true, if_false, ↓reduceIte], by simp only [dlF, dlR, c_2, decide_true, decide_false, Bool.not_true, Bool.not_false, Bool.true_and, Bool.and_true, Bool.false_and, Bool.and_false, Bool.or_true, Bool.true_or, Bool.or_false, Bool.false_or, Bool.false_eq_true, Bool.true_eq_false, if_true, if_false, ↓reduceIte]⟩) dX5_deliver_25
  · skip
    have c_2 : hrw S rr = true := nb_1 c_2
    obtain ⟨r9, hr9, hr9n, rfl⟩ := hrw_n hri.2.2 hr2 c_2
    have ec_r9 := nI_clamp (n := r9) (by omega)
    refine lv_aload_n hx hb dX5_deliver_11 rfl (lv_at hl 0 rfl) ?_
    refine wo_get hx hb hts inX5 hown hK hw 0 rfl rfl 2 (by decide) (hts _ wd_168) (fun _ h9 => h9) rfl dX5_deliver_12 ?_
    refine wo_get hx hb hts inX3 hown hK hw 3 rfl rfl 5 (by decide) (hts _ wd_100) (fun _ h9 => h9) rfl dX5_deliver_15 ?_
    refine lv_iload_n hx hb dX5_deliver_18 rfl (lv_at hl 1 rfl) ?_
    refine wo_iald hx hb hK hw 30 0 rfl rfl r9 rfl (by first | assumption | omega) (by decide) dX5_deliver_19 ?_
    refine lv_iconst (v := nI 2) hx hb dX5_deliver_20 (by decide) ?_
    refine lv_icmp_ne (tgt := 26) hx hb dX5_deliver_21 (by decide) (fun c_3 => ?_) (fun c_3 => ?_)
    · skip
      obtain ⟨b9, s9, f9, t9, hb9, hs9, hf9, ht9, e26, e27, e28, e29⟩ := hrows r9 hr9 hr9n
      have eb26 : (S.1 26 r9).toNatClampNeg = b9 := by rw [e26, nI_clamp (by omega)]
      have eb27 : (S.1 27 r9).toNatClampNeg = s9 := by rw [e27, nI_clamp (by omega)]
      have eb29 : (S.1 29 r9).toNatClampNeg = t9 := by rw [e29, nI_clamp (by omega)]
      refine lv_aload_n hx hb dX5_deliver_26 rfl (lv_at hl 0 rfl) ?_
      refine wo_get hx hb hts inX5 hown hK hw 0 rfl rfl 2 (by decide) (hts _ wd_168) (fun _ h9 => h9) rfl dX5_deliver_27 ?_
      refine wo_get hx hb hts inX3 hown hK hw 3 rfl rfl 6 (by decide) (hts _ wd_102) (fun _ h9 => h9) rfl dX5_deliver_30 ?_
      refine lv_iload_n hx hb dX5_deliver_33 rfl (lv_at hl 1 rfl) ?_
      refine lv_dup2_11 hx hb dX5_deliver_34 rfl rfl ?_
      refine wo_iald hx hb hK hw 31 0 rfl rfl r9 rfl (by first | assumption | omega) (by decide) dX5_deliver_35 ?_
      refine lv_iconst (v := nI 1) hx hb dX5_deliver_36 (by decide) ?_
      refine lv_iadd hx hb dX5_deliver_37 ?_
      refine wo_iast hx hb hK hw 31 0 rfl rfl r9 rfl (by first | assumption | omega) (by decide) (se_31 ca ad S r9 ((S.1 31 r9) + (nI 1))) dX5_deliver_38 (fun H locs hw => ?_)
      refine lv_aload_n hx hb dX5_deliver_39 rfl (lv_at hl 0 rfl) ?_
      refine wo_get hx hb hts inX5 hown hK hw 0 rfl rfl 2 (by decide) (hts _ wd_168) (fun _ h9 => h9) rfl dX5_deliver_40 ?_
      refine wo_get hx hb hts inX3 hown hK hw 3 rfl rfl 5 (by decide) (hts _ wd_100) (fun _ h9 => h9) rfl dX5_deliver_43 ?_
      refine lv_iload_n hx hb dX5_deliver_46 rfl (lv_at hl 1 rfl) ?_
      refine wo_iald hx hb hK hw 30 0 rfl rfl r9 rfl (by first | assumption | omega) (by decide) dX5_deliver_47 ?_
      refine lv_iconst (v := nI 1) hx hb dX5_deliver_48 (by decide) ?_
      refine lv_icmp_ne (tgt := 54) hx hb dX5_deliver_49 (by decide) (fun c_4 => ?_) (fun c_4 => ?_)
      · skip
        refine lv_aload_n hx hb dX5_deliver_54 rfl (lv_at hl 0 rfl) ?_
        refine wo_get hx hb hts inX5 hown hK hw 0 rfl rfl 2 (by decide) (hts _ wd_168) (fun _ h9 => h9) rfl dX5_deliver_55 ?_
        refine wo_get hx hb hts inX3 hown hK hw 3 rfl rfl 5 (by decide) (hts _ wd_100) (fun _ h9 => h9) rfl dX5_deliver_58 ?_
        refine lv_iload_n hx hb dX5_deliver_61 rfl (lv_at hl 1 rfl) ?_
        refine lv_iconst (v := nI 1) hx hb dX5_deliver_62 (by decide) ?_
        refine wo_iast hx hb hK hw 30 0 rfl rfl r9 rfl (by first | assumption | omega) (by decide) (se_30 ca ad (sI S 31 r9 ((S.1 31 r9) + (nI 1))) r9 (nI 1)) dX5_deliver_63 (fun H locs hw => ?_)
        refine lv_aload_n hx hb dX5_deliver_64 rfl (lv_at hl 0 rfl) ?_
        refine lv_aload_n hx hb dX5_deliver_65 rfl (lv_at hl 0 rfl) ?_
        refine wo_get hx hb hts inX5 hown hK hw 0 rfl rfl 2 (by decide) (hts _ wd_168) (fun _ h9 => h9) rfl dX5_deliver_66 ?_
        refine wo_get hx hb hts inX3 hown hK hw 3 rfl rfl 1 (by decide) (hts _ wd_92) (fun _ h9 => h9) rfl dX5_deliver_69 ?_
        refine lv_iload_n hx hb dX5_deliver_72 rfl (lv_at hl 1 rfl) ?_
        refine wo_iald hx hb hK hw 26 0 rfl rfl r9 rfl (by first | assumption | omega) (by decide) dX5_deliver_73 ?_
        refine tp_i (y := nI b9) (e26) ?_
        refine lv_aload_n hx hb dX5_deliver_74 rfl (lv_at hl 0 rfl) ?_
        refine wo_get hx hb hts inX5 hown hK hw 0 rfl rfl 2 (by decide) (hts _ wd_168) (fun _ h9 => h9) rfl dX5_deliver_75 ?_
        refine wo_get hx hb hts inX3 hown hK hw 3 rfl rfl 2 (by decide) (hts _ wd_94) (fun _ h9 => h9) rfl dX5_deliver_78 ?_
        refine lv_iload_n hx hb dX5_deliver_81 rfl (lv_at hl 1 rfl) ?_
        refine wo_iald hx hb hK hw 27 0 rfl rfl r9 rfl (by first | assumption | omega) (by decide) dX5_deliver_82 ?_
        refine tp_i (y := nI s9) (e27) ?_
        refine lv_aload_n hx hb dX5_deliver_83 rfl (lv_at hl 0 rfl) ?_
        refine wo_get hx hb hts inX5 hown hK hw 0 rfl rfl 2 (by decide) (hts _ wd_168) (fun _ h9 => h9) rfl dX5_deliver_84 ?_
        refine wo_get hx hb hts inX3 hown hK hw 3 rfl rfl 4 (by decide) (hts _ wd_98) (fun _ h9 => h9) rfl dX5_deliver_87 ?_
        refine lv_iload_n hx hb dX5_deliver_90 rfl (lv_at hl 1 rfl) ?_
        refine wo_iald hx hb hK hw 29 0 rfl rfl r9 rfl (by first | assumption | omega) (by decide) dX5_deliver_91 ?_
        refine tp_i (y := nI t9) (e29) ?_
        refine lv_aload_n hx hb dX5_deliver_92 rfl (lv_at hl 0 rfl) ?_
        refine wo_get hx hb hts inX5 hown hK hw 0 rfl rfl 2 (by decide) (hts _ wd_168) (fun _ h9 => h9) rfl dX5_deliver_93 ?_
        refine lv_iload_n hx hb dX5_deliver_96 rfl (lv_at hl 1 rfl) ?_
        refine wo_vL (As := [.int (nI r9)]) (rest := [.int (nI t9), .int (nI s9), .int (nI b9), .ref (ad 0)]) (kX3_empty l dC dI ca ad (sI (sI S 31 r9 ((S.1 31 r9) + (nI 1))) 30 r9 (nI 1)) r9 (by first | assumption | omega)) ⟨hx, hb, hml, hown, hts⟩ (cwV 1 hts (wa_gV wd_273 wd_274 wd_275 wd_5 wd_276) rfl rfl rfl (by decide +kernel) ⟨Nat.le_of_ble_eq_true rfl, Nat.le_of_ble_eq_true rfl⟩) hK hw hA 3 rfl rfl rfl rfl hl.1 rfl (Nat.le_of_ble_eq_true rfl) dX5_deliver_97 ⟨Nat.zero_le _, Nat.zero_le _⟩ (fun r_5 S_5 H locs hp_5 hw => ?_)
        have e9 := hp_5.1.symm
        subst e9
        have e9 := hp_5.2.symm
        subst e9
        refine wo_vV (As := [.int (nI b9), .int (nI s9), .int (nI t9), .long ((sI (sI S 31 r9 ((S.1 31 r9) + (nI 1))) 30 r9 (nI 1)).2 33 r9)]) (rest := []) (kX5_receive l dC dI ca ad (sL (sI (sI S 31 r9 ((S.1 31 r9) + (nI 1))) 30 r9 (nI 1)) 33 r9 0) b9 s9 t9 ((sI (sI S 31 r9 ((S.1 31 r9) + (nI 1))) 30 r9 (nI 1)).2 33 r9) nb nr (by first | assumption | omega) (by first | assumption | omega) (by first | assumption | omega) (RI_eq (RI_sI (RI_sI hri (by omega)) (by omega)) rfl)) ⟨hx, hb, hml, hown, hts⟩ (cwV 4 hts (wa_gV wd_277 wd_279 ws_3 wd_1 wd_280) rfl rfl rfl (by decide +kernel) ⟨Nat.le_of_ble_eq_true rfl, Nat.le_of_ble_eq_true rfl⟩) hK hw hA 0 rfl rfl rfl rfl hl.1 rfl (Nat.le_of_ble_eq_true rfl) dX5_deliver_100 ⟨Nat.zero_le _, Nat.zero_le _⟩ (fun S_6 H locs hp_6 hw => ?_)
        have eS_6 := hp_6
        refine lv_iconst (v := nI 1) hx hb dX5_deliver_103 (by decide) ?_
        exact ct_iret (S := S_6) (v := nI 1) hx hb hr hlocks hK hw (⟨by simp only [dlF, dlR, c_2, ec_r9, c_3, eb26, eb27, eb29, c_4, decide_true, decide_false, Bool.not_true, Bool.not_false, Bool.true_and, Bool.and_true, Bool.false_and, Bool.and_false, Bool.or_true, Bool.true_or, Bool.or_false, Bool.false_or, Bool.false_eq_true, Bool.true_eq_false, if_true, if_false, ↓reduceIte], by rw [eS_6]; simp only [dlF, dlR, c_2, ec_r9, c_3, eb26, eb27, eb29, c_4, decide_true, decide_false, Bool.not_true, Bool.not_false, Bool.true_and, Bool.and_true, Bool.false_and, Bool.and_false, Bool.or_true, Bool.true_or, Bool.or_false, Bool.false_or, Bool.false_eq_true, Bool.true_eq_false, if_true, if_false, ↓reduceIte]⟩) dX5_deliver_104
      · skip
        refine lv_iconst (v := nI 0) hx hb dX5_deliver_52 (by decide) ?_
        exact ct_iret (S := sI S 31 r9 ((S.1 31 r9) + (nI 1))) (v := nI 0) hx hb hr hlocks hK hw (⟨by simp only [dlF, dlR, c_2, ec_r9, c_3, eb26, eb27, eb29, c_4, decide_true, decide_false, Bool.not_true, Bool.not_false, Bool.true_and, Bool.and_true, Bool.false_and, Bool.and_false, Bool.or_true, Bool.true_or, Bool.or_false, Bool.false_or, Bool.false_eq_true, Bool.true_eq_false, if_true, if_false, ↓reduceIte], by simp only [dlF, dlR, c_2, ec_r9, c_3, eb26, eb27, eb29, c_4, decide_true, decide_false, Bool.not_true, Bool.not_false, Bool.true_and, Bool.and_true, Bool.false_and, Bool.and_false, Bool.or_true, Bool.true_or, Bool.or_false, Bool.false_or, Bool.false_eq_true, Bool.true_eq_false, if_true, if_false, ↓reduceIte]⟩) dX5_deliver_53
    · skip
      refine lv_iconst (v := (-1)) hx hb dX5_deliver_24 (by decide) ?_
      exact ct_iret (S := S) (v := (-1)) hx hb hr hlocks hK hw (⟨by simp only [dlF, dlR, c_2, ec_r9, c_3, decide_true, decide_false, Bool.not_true, Bool.not_false, Bool.true_and, Bool.and_true, Bool.false_and, Bool.and_false, Bool.or_true, Bool.true_or, Bool.or_false, Bool.false_or, Bool.false_eq_true, Bool.true_eq_false, if_true, if_false, ↓reduceIte], by simp only [dlF, dlR, c_2, ec_r9, c_3, decide_true, decide_false, Bool.not_true, Bool.not_false, Bool.true_and, Bool.and_true, Bool.false_and, Bool.and_false, Bool.or_true, Bool.true_or, Bool.or_false, Bool.false_or, Bool.false_eq_true, Bool.true_eq_false, if_true, if_false, ↓reduceIte]⟩) dX5_deliver_25

set_option maxHeartbeats 4000000 in
set_option maxRecDepth 100000 in
theorem kX5_lose (l : Launch) (dC : Nat → ClassId) (dI : Nat → Nat → Nat) (ca : Nat → ClassId) (ad : Nat → Nat) (S : sSt) (rr : Int32) (nb : Nat) (nr : Nat) (hb6 : nb ≤ 6) (hr2 : nr ≤ 200) (hri : RI nb nr S) : ct_I l yX5_lose (Cond.code yX5_lose cX5_lose 2 (some .boolean) :: wa_T) ({ frames := 1, cells := 0, slots := 0, locals := 21 } : Room) (dC, dI) vwCl (tyl ca) (wc ca ad) S [.ref (ad 0), .int rr] (fun r S2 => r = bI (lsOk S rr) ∧ S2 = (if lsOk S rr = true then sI S 30 rr.toNatClampNeg (nI 2) else S)) := by
  refine ct_ofI (by decide) (Nat.le_of_ble_eq_true rfl) ?_
  intro p e s m below meth c A ls hx hb hr hml hts hown hlocks hK hA hw hl
  have hl : lv_has ls 2 [(0, .ref (ad 0)), (1, .int rr)] := hl
  refine lv_aload_n hx hb dX5_lose_0 rfl (lv_at hl 0 rfl) ?_
  refine wo_get hx hb hts inX5 hown hK hw 0 rfl rfl 2 (by decide) (hts _ wd_168) (fun _ h9 => h9) rfl dX5_lose_1 ?_
  refine lv_iload_n hx hb dX5_lose_4 rfl (lv_at hl 1 rfl) ?_
  refine wo_vI (As := [.int rr]) (rest := []) (kX3_has l dC dI ca ad S rr) ⟨hx, hb, hml, hown, hts⟩ (cwV 1 hts (wa_gV wd_269 wd_270 wd_271 wd_5 wd_272) rfl rfl rfl (by decide +kernel) ⟨Nat.le_of_ble_eq_true rfl, Nat.le_of_ble_eq_true rfl⟩) hK hw hA 3 rfl rfl rfl rfl hl.1 rfl (Nat.le_of_ble_eq_true rfl) dX5_lose_5 ⟨Nat.zero_le _, Nat.zero_le _⟩ (fun r_1 S_1 H locs hp_1 hw => ?_)
  have e9 := hp_1.1.symm
  subst e9
  have e9 := hp_1.2.symm
  subst e9
  refine lv_if_eq (tgt := 23) hx hb dX5_lose_8 (by decide) (fun c_2 => ?_) (fun c_2 => ?_)
  · skip
    have c_2 : hrw S rr = false := nb_0 c_2
    refine lv_iconst (v := nI 0) hx hb dX5_lose_23 (by decide) ?_
    exact ct_zret (S := S) (v := nI 0) hx hb hr hlocks hK (by first | decide | exact nb_z _) hw (⟨by simp only [bI, lsOk, c_2, decide_true, decide_false, Bool.not_true, Bool.not_false, Bool.true_and, Bool.and_true, Bool.false_and, Bool.and_false, Bool.or_true, Bool.true_or, Bool.or_false, Bool.false_or, Bool.false_eq_true, Bool.true_eq_false, if_true, if_false, ↓reduceIte], by simp only [lsOk, c_2, decide_true, decide_false, Bool.not_true, Bool.not_false, Bool.true_and, Bool.and_true, Bool.false_and, Bool.and_false, Bool.or_true, Bool.true_or, Bool.or_false, Bool.false_or, Bool.false_eq_true, Bool.true_eq_false, if_true, if_false, ↓reduceIte]⟩) dX5_lose_24
  · skip
    have c_2 : hrw S rr = true := nb_1 c_2
    obtain ⟨r9, hr9, hr9n, rfl⟩ := hrw_n hri.2.2 hr2 c_2
    have ec_r9 := nI_clamp (n := r9) (by omega)
    refine lv_aload_n hx hb dX5_lose_11 rfl (lv_at hl 0 rfl) ?_
    refine wo_get hx hb hts inX5 hown hK hw 0 rfl rfl 2 (by decide) (hts _ wd_168) (fun _ h9 => h9) rfl dX5_lose_12 ?_
    refine wo_get hx hb hts inX3 hown hK hw 3 rfl rfl 5 (by decide) (hts _ wd_100) (fun _ h9 => h9) rfl dX5_lose_15 ?_
    refine lv_iload_n hx hb dX5_lose_18 rfl (lv_at hl 1 rfl) ?_
    refine wo_iald hx hb hK hw 30 0 rfl rfl r9 rfl (by first | assumption | omega) (by decide) dX5_lose_19 ?_
    refine lv_if_eq (tgt := 25) hx hb dX5_lose_20 (by decide) (fun c_3 => ?_) (fun c_3 => ?_)
    · skip
      refine lv_aload_n hx hb dX5_lose_25 rfl (lv_at hl 0 rfl) ?_
      refine wo_get hx hb hts inX5 hown hK hw 0 rfl rfl 2 (by decide) (hts _ wd_168) (fun _ h9 => h9) rfl dX5_lose_26 ?_
      refine wo_get hx hb hts inX3 hown hK hw 3 rfl rfl 5 (by decide) (hts _ wd_100) (fun _ h9 => h9) rfl dX5_lose_29 ?_
      refine lv_iload_n hx hb dX5_lose_32 rfl (lv_at hl 1 rfl) ?_
      refine lv_iconst (v := nI 2) hx hb dX5_lose_33 (by decide) ?_
      refine wo_iast hx hb hK hw 30 0 rfl rfl r9 rfl (by first | assumption | omega) (by decide) (se_30 ca ad S r9 (nI 2)) dX5_lose_34 (fun H locs hw => ?_)
      refine lv_iconst (v := nI 1) hx hb dX5_lose_35 (by decide) ?_
      exact ct_zret (S := sI S 30 r9 (nI 2)) (v := nI 1) hx hb hr hlocks hK (by first | decide | exact nb_z _) hw (⟨by simp only [bI, lsOk, c_2, ec_r9, c_3, decide_true, decide_false, Bool.not_true, Bool.not_false, Bool.true_and, Bool.and_true, Bool.false_and, Bool.and_false, Bool.or_true, Bool.true_or, Bool.or_false, Bool.false_or, Bool.false_eq_true, Bool.true_eq_false, if_true, if_false, ↓reduceIte], by simp only [lsOk, c_2, ec_r9, c_3, decide_true, decide_false, Bool.not_true, Bool.not_false, Bool.true_and, Bool.and_true, Bool.false_and, Bool.and_false, Bool.or_true, Bool.true_or, Bool.or_false, Bool.false_or, Bool.false_eq_true, Bool.true_eq_false, if_true, if_false, ↓reduceIte]⟩) dX5_lose_36
    · skip
      refine lv_iconst (v := nI 0) hx hb dX5_lose_23 (by decide) ?_
      exact ct_zret (S := S) (v := nI 0) hx hb hr hlocks hK (by first | decide | exact nb_z _) hw (⟨by simp only [bI, lsOk, c_2, ec_r9, c_3, decide_true, decide_false, Bool.not_true, Bool.not_false, Bool.true_and, Bool.and_true, Bool.false_and, Bool.and_false, Bool.or_true, Bool.true_or, Bool.or_false, Bool.false_or, Bool.false_eq_true, Bool.true_eq_false, if_true, if_false, ↓reduceIte], by simp only [lsOk, c_2, ec_r9, c_3, decide_true, decide_false, Bool.not_true, Bool.not_false, Bool.true_and, Bool.and_true, Bool.false_and, Bool.and_false, Bool.or_true, Bool.true_or, Bool.or_false, Bool.false_or, Bool.false_eq_true, Bool.true_eq_false, if_true, if_false, ↓reduceIte]⟩) dX5_lose_24

set_option maxHeartbeats 4000000 in
set_option maxRecDepth 100000 in
theorem kX5_end (l : Launch) (dC : Nat → ClassId) (dI : Nat → Nat → Nat) (ca : Nat → ClassId) (ad : Nat → Nat) (S : sSt) (pp : Int32) (nb : Nat) (nr : Nat) (hb6 : nb ≤ 6) (hr2 : nr ≤ 200) (hri : RI nb nr S) : ct_I l yX5_end (Cond.code yX5_end cX5_end 3 (some .boolean) :: wa_T) ({ frames := 5, cells := 0, slots := 0, locals := 122 } : Room) (dC, dI) vwCl (tyl ca) (wc ca ad) S [.ref (ad 0), .int pp] (fun r S2 => r = bI (wl S pp) ∧ S2 = enF S nb nr pp) := by
  refine ct_ofI (by decide) (Nat.le_of_ble_eq_true rfl) ?_
  intro p e s m below meth c A ls hx hb hr hml hts hown hlocks hK hA hw hl
  have hl : lv_has ls 3 [(0, .ref (ad 0)), (1, .int pp)] := hl
  refine lv_aload_n hx hb dX5_end_0 rfl (lv_at hl 0 rfl) ?_
  refine wo_get hx hb hts inX5 hown hK hw 0 rfl rfl 0 (by decide) (hts _ wd_166) (fun _ h9 => h9) rfl dX5_end_1 ?_
  refine lv_iload_n hx hb dX5_end_4 rfl (lv_at hl 1 rfl) ?_
  refine wo_vI (As := [.int pp]) (rest := []) (kX1_isWell l dC dI ca ad S pp) ⟨hx, hb, hml, hown, hts⟩ (cwV 1 hts (wa_gV wd_192 wd_193 wd_194 wd_2 wd_195) rfl rfl rfl (by decide +kernel) ⟨Nat.le_of_ble_eq_true rfl, Nat.le_of_ble_eq_true rfl⟩) hK hw hA 1 rfl rfl rfl rfl hl.1 rfl (Nat.le_of_ble_eq_true rfl) dX5_end_5 ⟨Nat.zero_le _, Nat.zero_le _⟩ (fun r_1 S_1 H locs hp_1 hw => ?_)
  have e9 := hp_1.1.symm
  subst e9
  have e9 := hp_1.2.symm
  subst e9
  refine lv_if_ne (tgt := 13) hx hb dX5_end_8 (by decide) (fun c_2 => ?_) (fun c_2 => ?_)
  · skip
    have c_2 : wl S pp = true := nb_1 c_2
    obtain ⟨p9, hp9, rfl⟩ := wl_n c_2
    have ec_p9 := nI_clamp (n := p9) (by omega)
    have hwl := c_2
    have hS0 := RI_end hp9 hri (nI 1)
    refine lv_aload_n hx hb dX5_end_13 rfl (lv_at hl 0 rfl) ?_
    refine wo_get hx hb hts inX5 hown hK hw 0 rfl rfl 0 (by decide) (hts _ wd_166) (fun _ h9 => h9) rfl dX5_end_14 ?_
    refine wo_get hx hb hts inX1 hown hK hw 1 rfl rfl 2 (by decide) (hts _ wd_40) (fun _ h9 => h9) rfl dX5_end_17 ?_
    refine lv_iload_n hx hb dX5_end_20 rfl (lv_at hl 1 rfl) ?_
    refine lv_iconst (v := nI 1) hx hb dX5_end_21 (by decide) ?_
    refine wo_iast hx hb hK hw 8 0 rfl rfl p9 rfl (by first | assumption | omega) (by decide) (se_8 ca ad S p9 (nI 1)) dX5_end_22 (fun H locs hw => ?_)
    refine lv_aload_n hx hb dX5_end_23 rfl (lv_at hl 0 rfl) ?_
    refine wo_get hx hb hts inX5 hown hK hw 0 rfl rfl 3 (by decide) (hts _ wd_169) (fun _ h9 => h9) rfl dX5_end_24 ?_
    refine lv_iload_n hx hb dX5_end_27 rfl (lv_at hl 1 rfl) ?_
    refine wo_vV (As := [.int (nI p9)]) (rest := []) (kX2_clear l dC dI ca ad (sI S 8 p9 (nI 1)) p9 (by first | assumption | omega)) ⟨hx, hb, hml, hown, hts⟩ (cwV 1 hts (wa_gV wd_297 wd_298 wd_299 wd_6 wd_300) rfl rfl rfl (by decide +kernel) ⟨Nat.le_of_ble_eq_true rfl, Nat.le_of_ble_eq_true rfl⟩) hK hw hA 4 rfl rfl rfl rfl hl.1 rfl (Nat.le_of_ble_eq_true rfl) dX5_end_28 ⟨Nat.zero_le _, Nat.zero_le _⟩ (fun S_3 H locs hp_3 hw => ?_)
    have e9 := hp_3.symm
    subst e9
    refine lv_iconst (v := nI 0) hx hb dX5_end_31 (by decide) ?_
    refine lv_istore_n (lv' := [(2, .int (nI 0)), (0, .ref (ad 0)), (1, .int (nI p9))]) hx hb dX5_end_32 rfl hl (by decide) rfl (fun ls hl => ?_)
    have lp_33 : ∀ (n : Nat) (i : Nat), i ≤ 6 → 7 ≤ i + n → ∀ (H : Heap) (locs : List Loc) (ls : Array Slot), wo_w (dC, dI) vwCl A s.heap (wc ca ad (enL nb nr (sI (sI S 8 p9 (nI 1)) 34 p9 (nI 0)) i)) H locs → lv_has ls 3 [(0, .ref (ad 0)), (2, .int (nI i))] → W p l e ({ frames := 5, cells := 0, slots := 0, locals := 122 } : Room) s m ([.ref (ad 0), .int (nI p9)] : List Value).toArray below meth c H locs 0 0 (MQ below (va_Qi (fun r S2 => r = bI (wl S (nI p9)) ∧ S2 = enF S nb nr (nI p9)) (ct_B (dC, dI) vwCl (tyl ca) (wc ca ad) A) A) ([.ref (ad 0), .int (nI p9)] : List Value).toArray s 0 0 A) (F0 m 33 ls []) := by
      intro n
      induction n with
      | zero =>
        intro i hi hn
        exfalso
        omega
      | succ n ih_33 =>
        intro i hi hn H locs ls hw hl
        refine lv_iload_n hx hb dX5_end_33 rfl (lv_at hl 1 rfl) ?_
        refine lv_bipush (v := nI 6) hx hb dX5_end_34 (by decide) ?_
        refine lv_icmp_ge (tgt := 61) hx hb dX5_end_36 (by decide) (fun c_4 => ?_) (fun c_4 => ?_)
        · skip
          have c_4 : 6 ≤ i := (nI_leI (a := 6) (b := i) (by omega) (by omega)).mp c_4
          obtain rfl : 6 = i := by omega
          refine lv_iconst (v := nI 1) hx hb dX5_end_61 (by decide) ?_
          exact ct_zret (S := enL nb nr (sI (sI S 8 p9 (nI 1)) 34 p9 (nI 0)) 6) (v := nI 1) hx hb hr hlocks hK (by first | decide | exact nb_z _) hw (⟨by simp only [bI, hwl, ↓reduceIte], by simp only [enF, hwl, ec_p9, ↓reduceIte]⟩) dX5_end_62
        · skip
          have c_4 : ¬ (6 ≤ i) := fun h9 => c_4 ((nI_leI (a := 6) (b := i) (by omega) (by omega)).mpr h9)
          refine lv_aload_n hx hb dX5_end_39 rfl (lv_at hl 0 rfl) ?_
          refine wo_get hx hb hts inX5 hown hK hw 0 rfl rfl 0 (by decide) (hts _ wd_166) (fun _ h9 => h9) rfl dX5_end_40 ?_
          refine lv_iload_n hx hb dX5_end_43 rfl (lv_at hl 1 rfl) ?_
          refine wo_vI (As := [.int (nI i)]) (rest := []) (kX1_canBeRecovered l dC dI ca ad (enL nb nr (sI (sI S 8 p9 (nI 1)) 34 p9 (nI 0)) i) i (by first | assumption | omega)) ⟨hx, hb, hml, hown, hts⟩ (cwV 1 hts (wa_gV wd_301 wd_302 wd_303 wd_2 wd_304) rfl rfl rfl (by decide +kernel) ⟨Nat.le_of_ble_eq_true rfl, Nat.le_of_ble_eq_true rfl⟩) hK hw hA 1 rfl rfl rfl rfl hl.1 rfl (Nat.le_of_ble_eq_true rfl) dX5_end_44 ⟨Nat.zero_le _, Nat.zero_le _⟩ (fun r_5 S_5 H locs hp_5 hw => ?_)
          have e9 := hp_5.1.symm
          subst e9
          have e9 := hp_5.2.symm
          subst e9
          refine lv_if_eq (tgt := 55) hx hb dX5_end_47 (by decide) (fun c_6 => ?_) (fun c_6 => ?_)
          · skip
            have c_6 : cr (enL nb nr (sI (sI S 8 p9 (nI 1)) 34 p9 (nI 0)) i) i = false := nb_0 c_6
            refine lv_iinc (v := nI (i + 1)) (lv' := [(2, .int (nI (i + 1))), (0, .ref (ad 0))]) hx hb dX5_end_55 hl (k := 1) rfl (nI_inc _) (by decide) rfl (fun ls hl => ?_)
            refine lv_goto (tgt := 33) hx hb dX5_end_58 (by decide) ?_
            have e9 : enL nb nr (sI (sI S 8 p9 (nI 1)) 34 p9 (nI 0)) i = enL nb nr (sI (sI S 8 p9 (nI 1)) 34 p9 (nI 0)) (i + 1) := by first | rfl | (simp only [enL, c_4, c_6, decide_true, decide_false, Bool.not_true, Bool.not_false, Bool.true_and, Bool.and_true, Bool.false_and, Bool.and_false, Bool.or_true, Bool.true_or, Bool.or_false, Bool.false_or, Bool.false_eq_true, Bool.true_eq_false, if_true, if_false, ↓reduceIte]; done)
            rw [e9] at hw
            exact ih_33 (i + 1) (by omega) (by omega) _ _ _ hw (lv_sub hl [1, 0] rfl)
          · skip
            have c_6 : cr (enL nb nr (sI (sI S 8 p9 (nI 1)) 34 p9 (nI 0)) i) i = true := nb_1 c_6
            refine lv_aload_n hx hb dX5_end_50 rfl (lv_at hl 0 rfl) ?_
            refine lv_iload_n hx hb dX5_end_51 rfl (lv_at hl 1 rfl) ?_
            refine wo_vV (As := [.int (nI i)]) (rest := []) (kX5_recover l dC dI ca ad (enL nb nr (sI (sI S 8 p9 (nI 1)) 34 p9 (nI 0)) i) i nb nr (by first | assumption | omega) (by first | assumption | omega) (by first | assumption | omega) (RI_enL hS0 i)) ⟨hx, hb, hml, hown, hts⟩ (cwV 1 hts (wa_gV wd_305 wd_307 ws_5 wd_1 wd_308) rfl rfl rfl (by decide +kernel) ⟨Nat.le_of_ble_eq_true rfl, Nat.le_of_ble_eq_true rfl⟩) hK hw hA 0 rfl rfl rfl rfl hl.1 rfl (Nat.le_of_ble_eq_true rfl) dX5_end_52 ⟨Nat.zero_le _, Nat.zero_le _⟩ (fun S_7 H locs hp_7 hw => ?_)
            have eS_7 := hp_7
            refine lv_iinc (v := nI (i + 1)) (lv' := [(2, .int (nI (i + 1))), (0, .ref (ad 0))]) hx hb dX5_end_55 hl (k := 1) rfl (nI_inc _) (by decide) rfl (fun ls hl => ?_)
            refine lv_goto (tgt := 33) hx hb dX5_end_58 (by decide) ?_
            have e9 : S_7 = enL nb nr (sI (sI S 8 p9 (nI 1)) 34 p9 (nI 0)) (i + 1) := by rw [eS_7]; simp only [enL, c_4, c_6, ↓reduceIte]
            rw [e9] at hw
            exact ih_33 (i + 1) (by omega) (by omega) _ _ _ hw (lv_sub hl [1, 0] rfl)
    have e9 : sI (sI S 8 p9 (nI 1)) 34 p9 (nI 0) = enL nb nr (sI (sI S 8 p9 (nI 1)) 34 p9 (nI 0)) 0 := by first | rfl | (simp only [enL, c_2, ec_p9, decide_true, decide_false, Bool.not_true, Bool.not_false, Bool.true_and, Bool.and_true, Bool.false_and, Bool.and_false, Bool.or_true, Bool.true_or, Bool.or_false, Bool.false_or, Bool.false_eq_true, Bool.true_eq_false, if_true, if_false, ↓reduceIte]; done)
    rw [e9] at hw
    exact lp_33 7 0 (by omega) (by omega) _ _ _ hw (lv_sub hl [1, 0] rfl)
  · skip
    have c_2 : wl S pp = false := nb_0 c_2
    refine lv_iconst (v := nI 0) hx hb dX5_end_11 (by decide) ?_
    exact ct_zret (S := S) (v := nI 0) hx hb hr hlocks hK (by first | decide | exact nb_z _) hw (⟨by simp only [bI, c_2, decide_true, decide_false, Bool.not_true, Bool.not_false, Bool.true_and, Bool.and_true, Bool.false_and, Bool.and_false, Bool.or_true, Bool.true_or, Bool.or_false, Bool.false_or, Bool.false_eq_true, Bool.true_eq_false, if_true, if_false, ↓reduceIte], by simp only [enF, c_2, decide_true, decide_false, Bool.not_true, Bool.not_false, Bool.true_and, Bool.and_true, Bool.false_and, Bool.and_false, Bool.or_true, Bool.true_or, Bool.or_false, Bool.false_or, Bool.false_eq_true, Bool.true_eq_false, if_true, if_false, ↓reduceIte]⟩) dX5_end_12

set_option maxHeartbeats 4000000 in
set_option maxRecDepth 100000 in
theorem kX5_vouch (l : Launch) (dC : Nat → ClassId) (dI : Nat → Nat → Nat) (ca : Nat → ClassId) (ad : Nat → Nat) (S : sSt) (pp : Int32) (ee : Int32) (nb : Nat) (nr : Nat) (hb6 : nb ≤ 6) (hr2 : nr ≤ 200) (hri : RI nb nr S) : ct_I l yX5_vouch (Cond.code yX5_vouch cX5_vouch 3 (some .int) :: wa_T) ({ frames := 5, cells := 0, slots := 0, locals := 122 } : Room) (dC, dI) vwCl (tyl ca) (wc ca ad) S [.ref (ad 0), .int pp, .int ee] (fun r S2 => r = (vcF S nb nr pp ee).1 ∧ S2 = (vcF S nb nr pp ee).2) := by
  refine ct_ofI (by decide) (Nat.le_of_ble_eq_true rfl) ?_
  intro p e s m below meth c A ls hx hb hr hml hts hown hlocks hK hA hw hl
  have hl : lv_has ls 3 [(0, .ref (ad 0)), (1, .int pp), (2, .int ee)] := hl
  refine lv_aload_n hx hb dX5_vouch_0 rfl (lv_at hl 0 rfl) ?_
  refine wo_get hx hb hts inX5 hown hK hw 0 rfl rfl 0 (by decide) (hts _ wd_166) (fun _ h9 => h9) rfl dX5_vouch_1 ?_
  refine lv_iload_n hx hb dX5_vouch_4 rfl (lv_at hl 1 rfl) ?_
  refine wo_vI (As := [.int pp]) (rest := []) (kX1_isWell l dC dI ca ad S pp) ⟨hx, hb, hml, hown, hts⟩ (cwV 1 hts (wa_gV wd_192 wd_193 wd_194 wd_2 wd_195) rfl rfl rfl (by decide +kernel) ⟨Nat.le_of_ble_eq_true rfl, Nat.le_of_ble_eq_true rfl⟩) hK hw hA 1 rfl rfl rfl rfl hl.1 rfl (Nat.le_of_ble_eq_true rfl) dX5_vouch_5 ⟨Nat.zero_le _, Nat.zero_le _⟩ (fun r_1 S_1 H locs hp_1 hw => ?_)
  have e9 := hp_1.1.symm
  subst e9
  have e9 := hp_1.2.symm
  subst e9
  refine lv_if_eq (tgt := 30) hx hb dX5_vouch_8 (by decide) (fun c_2 => ?_) (fun c_2 => ?_)
  · skip
    have c_2 : wl S pp = false := nb_0 c_2
    refine lv_iconst (v := (-1)) hx hb dX5_vouch_30 (by decide) ?_
    exact ct_iret (S := S) (v := (-1)) hx hb hr hlocks hK hw (⟨by simp only [vcF, vcG, vcR, nI_20, c_2, decide_true, decide_false, Bool.not_true, Bool.not_false, Bool.true_and, Bool.and_true, Bool.false_and, Bool.and_false, Bool.or_true, Bool.true_or, Bool.or_false, Bool.false_or, Bool.false_eq_true, Bool.true_eq_false, if_true, if_false, ↓reduceIte], by simp only [vcF, vcG, vcR, nI_20, c_2, decide_true, decide_false, Bool.not_true, Bool.not_false, Bool.true_and, Bool.and_true, Bool.false_and, Bool.and_false, Bool.or_true, Bool.true_or, Bool.or_false, Bool.false_or, Bool.false_eq_true, Bool.true_eq_false, if_true, if_false, ↓reduceIte]⟩) dX5_vouch_31
  · skip
    have c_2 : wl S pp = true := nb_1 c_2
    obtain ⟨p9, hp9, rfl⟩ := wl_n c_2
    have ec_p9 := nI_clamp (n := p9) (by omega)
    refine lv_iload_n hx hb dX5_vouch_11 rfl (lv_at hl 2 rfl) ?_
    refine wo_sI (As := [.int ee]) (rest := []) (kX1_has l dC dI ca ad S ee) ⟨hx, hb, hml, hown, hts⟩ (va_cwS 1 hts (wa_gS wd_344 wd_197 wd_2 wd_198) rfl rfl rfl (by decide +kernel) ⟨Nat.le_of_ble_eq_true rfl, Nat.le_of_ble_eq_true rfl⟩) hK hw hA rfl hl.1 rfl (Nat.le_of_ble_eq_true rfl) dX5_vouch_12 ⟨Nat.zero_le _, Nat.zero_le _⟩ (fun r_3 S_3 H locs hp_3 hw => ?_)
    have e9 := hp_3.1.symm
    subst e9
    have e9 := hp_3.2.symm
    subst e9
    refine lv_if_eq (tgt := 30) hx hb dX5_vouch_15 (by decide) (fun c_4 => ?_) (fun c_4 => ?_)
    · skip
      have c_4 : h6 ee = false := nb_0 c_4
      refine lv_iconst (v := (-1)) hx hb dX5_vouch_30 (by decide) ?_
      exact ct_iret (S := S) (v := (-1)) hx hb hr hlocks hK hw (⟨by simp only [vcF, vcG, vcR, nI_20, c_2, ec_p9, c_4, decide_true, decide_false, Bool.not_true, Bool.not_false, Bool.true_and, Bool.and_true, Bool.false_and, Bool.and_false, Bool.or_true, Bool.true_or, Bool.or_false, Bool.false_or, Bool.false_eq_true, Bool.true_eq_false, if_true, if_false, ↓reduceIte], by simp only [vcF, vcG, vcR, nI_20, c_2, ec_p9, c_4, decide_true, decide_false, Bool.not_true, Bool.not_false, Bool.true_and, Bool.and_true, Bool.false_and, Bool.and_false, Bool.or_true, Bool.true_or, Bool.or_false, Bool.false_or, Bool.false_eq_true, Bool.true_eq_false, if_true, if_false, ↓reduceIte]⟩) dX5_vouch_31
    · skip
      have c_4 : h6 ee = true := nb_1 c_4
      obtain ⟨e9, he9, rfl⟩ := h6_n c_4
      have ec_e9 := nI_clamp (n := e9) (by omega)
      refine lv_aload_n hx hb dX5_vouch_18 rfl (lv_at hl 0 rfl) ?_
      refine wo_get hx hb hts inX5 hown hK hw 0 rfl rfl 0 (by decide) (hts _ wd_166) (fun _ h9 => h9) rfl dX5_vouch_19 ?_
      refine wo_get hx hb hts inX1 hown hK hw 1 rfl rfl 2 (by decide) (hts _ wd_40) (fun _ h9 => h9) rfl dX5_vouch_22 ?_
      refine lv_iload_n hx hb dX5_vouch_25 rfl (lv_at hl 2 rfl) ?_
      refine wo_iald hx hb hK hw 8 0 rfl rfl e9 rfl (by first | assumption | omega) (by decide) dX5_vouch_26 ?_
      refine lv_if_ne (tgt := 32) hx hb dX5_vouch_27 (by decide) (fun c_5 => ?_) (fun c_5 => ?_)
      · skip
        refine lv_aload_n hx hb dX5_vouch_32 rfl (lv_at hl 0 rfl) ?_
        refine wo_get hx hb hts inX5 hown hK hw 0 rfl rfl 0 (by decide) (hts _ wd_166) (fun _ h9 => h9) rfl dX5_vouch_33 ?_
        refine wo_get hx hb hts inX1 hown hK hw 1 rfl rfl 2 (by decide) (hts _ wd_40) (fun _ h9 => h9) rfl dX5_vouch_36 ?_
        refine lv_iload_n hx hb dX5_vouch_39 rfl (lv_at hl 2 rfl) ?_
        refine wo_iald hx hb hK hw 8 0 rfl rfl e9 rfl (by first | assumption | omega) (by decide) dX5_vouch_40 ?_
        refine lv_iconst (v := nI 2) hx hb dX5_vouch_41 (by decide) ?_
        refine lv_icmp_eq (tgt := 57) hx hb dX5_vouch_42 (by decide) (fun c_6 => ?_) (fun c_6 => ?_)
        · skip
          refine lv_iconst (v := nI 0) hx hb dX5_vouch_57 (by decide) ?_
          exact ct_iret (S := S) (v := nI 0) hx hb hr hlocks hK hw (⟨by simp only [vcF, vcG, vcR, nI_20, c_2, ec_p9, c_4, ec_e9, c_5, c_6, decide_true, decide_false, Bool.not_true, Bool.not_false, Bool.true_and, Bool.and_true, Bool.false_and, Bool.and_false, Bool.or_true, Bool.true_or, Bool.or_false, Bool.false_or, Bool.false_eq_true, Bool.true_eq_false, if_true, if_false, ↓reduceIte], by simp only [vcF, vcG, vcR, nI_20, c_2, ec_p9, c_4, ec_e9, c_5, c_6, decide_true, decide_false, Bool.not_true, Bool.not_false, Bool.true_and, Bool.and_true, Bool.false_and, Bool.and_false, Bool.or_true, Bool.true_or, Bool.or_false, Bool.false_or, Bool.false_eq_true, Bool.true_eq_false, if_true, if_false, ↓reduceIte]⟩) dX5_vouch_58
        · skip
          refine lv_aload_n hx hb dX5_vouch_45 rfl (lv_at hl 0 rfl) ?_
          refine wo_get hx hb hts inX5 hown hK hw 0 rfl rfl 0 (by decide) (hts _ wd_166) (fun _ h9 => h9) rfl dX5_vouch_46 ?_
          refine lv_iload_n hx hb dX5_vouch_49 rfl (lv_at hl 1 rfl) ?_
          refine lv_iload_n hx hb dX5_vouch_50 rfl (lv_at hl 2 rfl) ?_
          refine wo_vI (As := [.int (nI p9), .int (nI e9)]) (rest := []) (kX1_tell l dC dI ca ad S p9 e9 (by first | assumption | omega) (by first | assumption | omega)) ⟨hx, hb, hml, hown, hts⟩ (cwV 2 hts (wa_gV wd_345 wd_346 wd_347 wd_2 wd_348) rfl rfl rfl (by decide +kernel) ⟨Nat.le_of_ble_eq_true rfl, Nat.le_of_ble_eq_true rfl⟩) hK hw hA 1 rfl rfl rfl rfl hl.1 rfl (Nat.le_of_ble_eq_true rfl) dX5_vouch_51 ⟨Nat.zero_le _, Nat.zero_le _⟩ (fun r_7 S_7 H locs hp_7 hw => ?_)
          have e9 := hp_7.1.symm
          subst e9
          have e9 := hp_7.2.symm
          subst e9
          refine lv_if_ne (tgt := 59) hx hb dX5_vouch_54 (by decide) (fun c_8 => ?_) (fun c_8 => ?_)
          · skip
            have c_8 : tk S e9 p9 = true := nb_1 c_8
            rw [if_pos c_8] at hw
            have hvc : RI nb nr (vcT S p9 e9) := RI_sI hri (by omega)
            have hw : wo_w (dC, dI) vwCl A s.heap (wc ca ad (vcT S p9 e9)) H locs := hw
            refine lv_aload_n hx hb dX5_vouch_59 rfl (lv_at hl 0 rfl) ?_
            refine wo_get hx hb hts inX5 hown hK hw 0 rfl rfl 0 (by decide) (hts _ wd_166) (fun _ h9 => h9) rfl dX5_vouch_60 ?_
            refine lv_iload_n hx hb dX5_vouch_63 rfl (lv_at hl 2 rfl) ?_
            refine wo_vI (As := [.int (nI e9)]) (rest := []) (kX1_canBeRecovered l dC dI ca ad (vcT S p9 e9) e9 (by first | assumption | omega)) ⟨hx, hb, hml, hown, hts⟩ (cwV 1 hts (wa_gV wd_301 wd_302 wd_303 wd_2 wd_304) rfl rfl rfl (by decide +kernel) ⟨Nat.le_of_ble_eq_true rfl, Nat.le_of_ble_eq_true rfl⟩) hK hw hA 1 rfl rfl rfl rfl hl.1 rfl (Nat.le_of_ble_eq_true rfl) dX5_vouch_64 ⟨Nat.zero_le _, Nat.zero_le _⟩ (fun r_9 S_9 H locs hp_9 hw => ?_)
            have e9 := hp_9.1.symm
            subst e9
            have e9 := hp_9.2.symm
            subst e9
            refine lv_if_ne (tgt := 72) hx hb dX5_vouch_67 (by decide) (fun c_10 => ?_) (fun c_10 => ?_)
            · skip
              have c_10 : cr (vcT S p9 e9) e9 = true := nb_1 c_10
              refine lv_aload_n hx hb dX5_vouch_72 rfl (lv_at hl 0 rfl) ?_
              refine lv_iload_n hx hb dX5_vouch_73 rfl (lv_at hl 2 rfl) ?_
              refine wo_vV (As := [.int (nI e9)]) (rest := []) (kX5_recover l dC dI ca ad (vcT S p9 e9) e9 nb nr (by first | assumption | omega) (by first | assumption | omega) (by first | assumption | omega) hvc) ⟨hx, hb, hml, hown, hts⟩ (cwV 1 hts (wa_gV wd_305 wd_307 ws_5 wd_1 wd_308) rfl rfl rfl (by decide +kernel) ⟨Nat.le_of_ble_eq_true rfl, Nat.le_of_ble_eq_true rfl⟩) hK hw hA 0 rfl rfl rfl rfl hl.1 rfl (Nat.le_of_ble_eq_true rfl) dX5_vouch_74 ⟨Nat.zero_le _, Nat.zero_le _⟩ (fun S_11 H locs hp_11 hw => ?_)
              have eS_11 := hp_11
              refine lv_iconst (v := nI 2) hx hb dX5_vouch_77 (by decide) ?_
              exact ct_iret (S := S_11) (v := nI 2) hx hb hr hlocks hK hw (⟨by simp only [vcF, vcG, vcR, nI_20, c_2, ec_p9, c_4, ec_e9, c_5, c_6, c_8, c_10, decide_true, decide_false, Bool.not_true, Bool.not_false, Bool.true_and, Bool.and_true, Bool.false_and, Bool.and_false, Bool.or_true, Bool.true_or, Bool.or_false, Bool.false_or, Bool.false_eq_true, Bool.true_eq_false, if_true, if_false, ↓reduceIte], by rw [eS_11]; simp only [vcF, vcG, vcR, nI_20, c_2, ec_p9, c_4, ec_e9, c_5, c_6, c_8, c_10, decide_true, decide_false, Bool.not_true, Bool.not_false, Bool.true_and, Bool.and_true, Bool.false_and, Bool.and_false, Bool.or_true, Bool.true_or, Bool.or_false, Bool.false_or, Bool.false_eq_true, Bool.true_eq_false, if_true, if_false, ↓reduceIte]⟩) dX5_vouch_78
            · skip
              have c_10 : cr (vcT S p9 e9) e9 = false := nb_0 c_10
              refine lv_iconst (v := nI 1) hx hb dX5_vouch_70 (by decide) ?_
              exact ct_iret (S := vcT S p9 e9) (v := nI 1) hx hb hr hlocks hK hw (⟨by simp only [vcF, vcG, vcR, nI_20, c_2, ec_p9, c_4, ec_e9, c_5, c_6, c_8, c_10, decide_true, decide_false, Bool.not_true, Bool.not_false, Bool.true_and, Bool.and_true, Bool.false_and, Bool.and_false, Bool.or_true, Bool.true_or, Bool.or_false, Bool.false_or, Bool.false_eq_true, Bool.true_eq_false, if_true, if_false, ↓reduceIte], by simp only [vcF, vcG, vcR, nI_20, c_2, ec_p9, c_4, ec_e9, c_5, c_6, c_8, c_10, decide_true, decide_false, Bool.not_true, Bool.not_false, Bool.true_and, Bool.and_true, Bool.false_and, Bool.and_false, Bool.or_true, Bool.true_or, Bool.or_false, Bool.false_or, Bool.false_eq_true, Bool.true_eq_false, if_true, if_false, ↓reduceIte]⟩) dX5_vouch_71
          · skip
            have c_8 : tk S e9 p9 = false := nb_0 c_8
            rw [if_neg (by rw [c_8]; decide)] at hw
            refine lv_iconst (v := nI 0) hx hb dX5_vouch_57 (by decide) ?_
            exact ct_iret (S := S) (v := nI 0) hx hb hr hlocks hK hw (⟨by simp only [vcF, vcG, vcR, nI_20, c_2, ec_p9, c_4, ec_e9, c_5, c_6, c_8, decide_true, decide_false, Bool.not_true, Bool.not_false, Bool.true_and, Bool.and_true, Bool.false_and, Bool.and_false, Bool.or_true, Bool.true_or, Bool.or_false, Bool.false_or, Bool.false_eq_true, Bool.true_eq_false, if_true, if_false, ↓reduceIte], by simp only [vcF, vcG, vcR, nI_20, c_2, ec_p9, c_4, ec_e9, c_5, c_6, c_8, decide_true, decide_false, Bool.not_true, Bool.not_false, Bool.true_and, Bool.and_true, Bool.false_and, Bool.and_false, Bool.or_true, Bool.true_or, Bool.or_false, Bool.false_or, Bool.false_eq_true, Bool.true_eq_false, if_true, if_false, ↓reduceIte]⟩) dX5_vouch_58
      · skip
        refine lv_iconst (v := (-1)) hx hb dX5_vouch_30 (by decide) ?_
        exact ct_iret (S := S) (v := (-1)) hx hb hr hlocks hK hw (⟨by simp only [vcF, vcG, vcR, nI_20, c_2, ec_p9, c_4, ec_e9, c_5, decide_true, decide_false, Bool.not_true, Bool.not_false, Bool.true_and, Bool.and_true, Bool.false_and, Bool.and_false, Bool.or_true, Bool.true_or, Bool.or_false, Bool.false_or, Bool.false_eq_true, Bool.true_eq_false, if_true, if_false, ↓reduceIte], by simp only [vcF, vcG, vcR, nI_20, c_2, ec_p9, c_4, ec_e9, c_5, decide_true, decide_false, Bool.not_true, Bool.not_false, Bool.true_and, Bool.and_true, Bool.false_and, Bool.and_false, Bool.or_true, Bool.true_or, Bool.or_false, Bool.false_or, Bool.false_eq_true, Bool.true_eq_false, if_true, if_false, ↓reduceIte]⟩) dX5_vouch_31
