theorem dX3_has_0 : decode cX3_has 0 = .ok (.iload_n 1, 1) := by decide +kernel
theorem dX3_has_1 : decode cX3_has 1 = .ok (.iconst 1, 1) := by decide +kernel
theorem dX3_has_2 : decode cX3_has 2 = .ok (.if_icmp .lt 15, 3) := by decide +kernel
theorem dX3_has_5 : decode cX3_has 5 = .ok (.iload_n 1, 1) := by decide +kernel
theorem dX3_has_6 : decode cX3_has 6 = .ok (.aload_n 0, 1) := by decide +kernel
theorem dX3_has_7 : decode cX3_has 7 = .ok (.getfield 37, 3) := by decide +kernel
theorem dX3_has_10 : decode cX3_has 10 = .ok (.if_icmp .gt 7, 3) := by decide +kernel
theorem dX3_has_13 : decode cX3_has 13 = .ok (.iconst 1, 1) := by decide +kernel
theorem dX3_has_14 : decode cX3_has 14 = .ok (.goto 4, 3) := by decide +kernel
theorem dX3_has_17 : decode cX3_has 17 = .ok (.iconst 0, 1) := by decide +kernel
theorem dX3_has_18 : decode cX3_has 18 = .ok (.ireturn, 1) := by decide +kernel

theorem dX3_isOf_0 : decode cX3_isOf 0 = .ok (.aload_n 0, 1) := by decide +kernel
theorem dX3_isOf_1 : decode cX3_isOf 1 = .ok (.getfield 9, 3) := by decide +kernel
theorem dX3_isOf_4 : decode cX3_isOf 4 = .ok (.iload_n 1, 1) := by decide +kernel
theorem dX3_isOf_5 : decode cX3_isOf 5 = .ok (.iaload, 1) := by decide +kernel
theorem dX3_isOf_6 : decode cX3_isOf 6 = .ok (.iload_n 2, 1) := by decide +kernel
theorem dX3_isOf_7 : decode cX3_isOf 7 = .ok (.if_icmp .ne 17, 3) := by decide +kernel
theorem dX3_isOf_10 : decode cX3_isOf 10 = .ok (.aload_n 0, 1) := by decide +kernel
theorem dX3_isOf_11 : decode cX3_isOf 11 = .ok (.getfield 15, 3) := by decide +kernel
theorem dX3_isOf_14 : decode cX3_isOf 14 = .ok (.iload_n 1, 1) := by decide +kernel
theorem dX3_isOf_15 : decode cX3_isOf 15 = .ok (.iaload, 1) := by decide +kernel
theorem dX3_isOf_16 : decode cX3_isOf 16 = .ok (.iload_n 3, 1) := by decide +kernel
theorem dX3_isOf_17 : decode cX3_isOf 17 = .ok (.if_icmp .ne 7, 3) := by decide +kernel
theorem dX3_isOf_20 : decode cX3_isOf 20 = .ok (.iconst 1, 1) := by decide +kernel
theorem dX3_isOf_21 : decode cX3_isOf 21 = .ok (.goto 4, 3) := by decide +kernel
theorem dX3_isOf_24 : decode cX3_isOf 24 = .ok (.iconst 0, 1) := by decide +kernel
theorem dX3_isOf_25 : decode cX3_isOf 25 = .ok (.ireturn, 1) := by decide +kernel

theorem dX3_open_0 : decode cX3_open 0 = .ok (.aload_n 0, 1) := by decide +kernel
theorem dX3_open_1 : decode cX3_open 1 = .ok (.dup, 1) := by decide +kernel
theorem dX3_open_2 : decode cX3_open 2 = .ok (.getfield 37, 3) := by decide +kernel
theorem dX3_open_5 : decode cX3_open 5 = .ok (.iconst 1, 1) := by decide +kernel
theorem dX3_open_6 : decode cX3_open 6 = .ok (.iadd, 1) := by decide +kernel
theorem dX3_open_7 : decode cX3_open 7 = .ok (.putfield 37, 3) := by decide +kernel
theorem dX3_open_10 : decode cX3_open 10 = .ok (.aload_n 0, 1) := by decide +kernel
theorem dX3_open_11 : decode cX3_open 11 = .ok (.getfield 9, 3) := by decide +kernel
theorem dX3_open_14 : decode cX3_open 14 = .ok (.aload_n 0, 1) := by decide +kernel
theorem dX3_open_15 : decode cX3_open 15 = .ok (.getfield 37, 3) := by decide +kernel
theorem dX3_open_18 : decode cX3_open 18 = .ok (.iload_n 1, 1) := by decide +kernel
theorem dX3_open_19 : decode cX3_open 19 = .ok (.iastore, 1) := by decide +kernel
theorem dX3_open_20 : decode cX3_open 20 = .ok (.aload_n 0, 1) := by decide +kernel
theorem dX3_open_21 : decode cX3_open 21 = .ok (.getfield 15, 3) := by decide +kernel
theorem dX3_open_24 : decode cX3_open 24 = .ok (.aload_n 0, 1) := by decide +kernel
theorem dX3_open_25 : decode cX3_open 25 = .ok (.getfield 37, 3) := by decide +kernel
theorem dX3_open_28 : decode cX3_open 28 = .ok (.iload_n 2, 1) := by decide +kernel
theorem dX3_open_29 : decode cX3_open 29 = .ok (.iastore, 1) := by decide +kernel
theorem dX3_open_30 : decode cX3_open 30 = .ok (.aload_n 0, 1) := by decide +kernel
theorem dX3_open_31 : decode cX3_open 31 = .ok (.getfield 18, 3) := by decide +kernel
theorem dX3_open_34 : decode cX3_open 34 = .ok (.aload_n 0, 1) := by decide +kernel
theorem dX3_open_35 : decode cX3_open 35 = .ok (.getfield 37, 3) := by decide +kernel
theorem dX3_open_38 : decode cX3_open 38 = .ok (.iload_n 3, 1) := by decide +kernel
theorem dX3_open_39 : decode cX3_open 39 = .ok (.iastore, 1) := by decide +kernel
theorem dX3_open_40 : decode cX3_open 40 = .ok (.aload_n 0, 1) := by decide +kernel
theorem dX3_open_41 : decode cX3_open 41 = .ok (.getfield 21, 3) := by decide +kernel
theorem dX3_open_44 : decode cX3_open 44 = .ok (.aload_n 0, 1) := by decide +kernel
theorem dX3_open_45 : decode cX3_open 45 = .ok (.getfield 37, 3) := by decide +kernel
theorem dX3_open_48 : decode cX3_open 48 = .ok (.iload 4, 2) := by decide +kernel
theorem dX3_open_50 : decode cX3_open 50 = .ok (.iastore, 1) := by decide +kernel
theorem dX3_open_51 : decode cX3_open 51 = .ok (.aload_n 0, 1) := by decide +kernel
theorem dX3_open_52 : decode cX3_open 52 = .ok (.getfield 30, 3) := by decide +kernel
theorem dX3_open_55 : decode cX3_open 55 = .ok (.aload_n 0, 1) := by decide +kernel
theorem dX3_open_56 : decode cX3_open 56 = .ok (.getfield 37, 3) := by decide +kernel
theorem dX3_open_59 : decode cX3_open 59 = .ok (.lload 5, 2) := by decide +kernel
theorem dX3_open_61 : decode cX3_open 61 = .ok (.lastore, 1) := by decide +kernel
theorem dX3_open_62 : decode cX3_open 62 = .ok (.aload_n 0, 1) := by decide +kernel
theorem dX3_open_63 : decode cX3_open 63 = .ok (.getfield 34, 3) := by decide +kernel
theorem dX3_open_66 : decode cX3_open 66 = .ok (.aload_n 0, 1) := by decide +kernel
theorem dX3_open_67 : decode cX3_open 67 = .ok (.getfield 37, 3) := by decide +kernel
theorem dX3_open_70 : decode cX3_open 70 = .ok (.lload 5, 2) := by decide +kernel
theorem dX3_open_72 : decode cX3_open 72 = .ok (.lastore, 1) := by decide +kernel
theorem dX3_open_73 : decode cX3_open 73 = .ok (.aload_n 0, 1) := by decide +kernel
theorem dX3_open_74 : decode cX3_open 74 = .ok (.getfield 37, 3) := by decide +kernel
theorem dX3_open_77 : decode cX3_open 77 = .ok (.ireturn, 1) := by decide +kernel

theorem dX3_empty_0 : decode cX3_empty 0 = .ok (.aload_n 0, 1) := by decide +kernel
theorem dX3_empty_1 : decode cX3_empty 1 = .ok (.getfield 34, 3) := by decide +kernel
theorem dX3_empty_4 : decode cX3_empty 4 = .ok (.iload_n 1, 1) := by decide +kernel
theorem dX3_empty_5 : decode cX3_empty 5 = .ok (.laload, 1) := by decide +kernel
theorem dX3_empty_6 : decode cX3_empty 6 = .ok (.lstore_n 2, 1) := by decide +kernel
theorem dX3_empty_7 : decode cX3_empty 7 = .ok (.aload_n 0, 1) := by decide +kernel
theorem dX3_empty_8 : decode cX3_empty 8 = .ok (.getfield 34, 3) := by decide +kernel
theorem dX3_empty_11 : decode cX3_empty 11 = .ok (.iload_n 1, 1) := by decide +kernel
theorem dX3_empty_12 : decode cX3_empty 12 = .ok (.lconst 0, 1) := by decide +kernel
theorem dX3_empty_13 : decode cX3_empty 13 = .ok (.lastore, 1) := by decide +kernel
theorem dX3_empty_14 : decode cX3_empty 14 = .ok (.lload_n 2, 1) := by decide +kernel
theorem dX3_empty_15 : decode cX3_empty 15 = .ok (.lreturn, 1) := by decide +kernel

theorem dX3_callBack_0 : decode cX3_callBack 0 = .ok (.lconst 0, 1) := by decide +kernel
theorem dX3_callBack_1 : decode cX3_callBack 1 = .ok (.lstore 4, 2) := by decide +kernel
theorem dX3_callBack_3 : decode cX3_callBack 3 = .ok (.iconst 1, 1) := by decide +kernel
theorem dX3_callBack_4 : decode cX3_callBack 4 = .ok (.istore 6, 2) := by decide +kernel
theorem dX3_callBack_6 : decode cX3_callBack 6 = .ok (.iload 6, 2) := by decide +kernel
theorem dX3_callBack_8 : decode cX3_callBack 8 = .ok (.aload_n 0, 1) := by decide +kernel
theorem dX3_callBack_9 : decode cX3_callBack 9 = .ok (.getfield 37, 3) := by decide +kernel
theorem dX3_callBack_12 : decode cX3_callBack 12 = .ok (.if_icmp .gt 84, 3) := by decide +kernel
theorem dX3_callBack_15 : decode cX3_callBack 15 = .ok (.aload_n 0, 1) := by decide +kernel
theorem dX3_callBack_16 : decode cX3_callBack 16 = .ok (.getfield 18, 3) := by decide +kernel
theorem dX3_callBack_19 : decode cX3_callBack 19 = .ok (.iload 6, 2) := by decide +kernel
theorem dX3_callBack_21 : decode cX3_callBack 21 = .ok (.iaload, 1) := by decide +kernel
theorem dX3_callBack_22 : decode cX3_callBack 22 = .ok (.iload_n 3, 1) := by decide +kernel
theorem dX3_callBack_23 : decode cX3_callBack 23 = .ok (.if_icmp .eq 14, 3) := by decide +kernel
theorem dX3_callBack_26 : decode cX3_callBack 26 = .ok (.aload_n 0, 1) := by decide +kernel
theorem dX3_callBack_27 : decode cX3_callBack 27 = .ok (.getfield 21, 3) := by decide +kernel
theorem dX3_callBack_30 : decode cX3_callBack 30 = .ok (.iload 6, 2) := by decide +kernel
theorem dX3_callBack_32 : decode cX3_callBack 32 = .ok (.iaload, 1) := by decide +kernel
theorem dX3_callBack_33 : decode cX3_callBack 33 = .ok (.iload_n 3, 1) := by decide +kernel
theorem dX3_callBack_34 : decode cX3_callBack 34 = .ok (.if_icmp .ne 7, 3) := by decide +kernel
theorem dX3_callBack_37 : decode cX3_callBack 37 = .ok (.iconst 1, 1) := by decide +kernel
theorem dX3_callBack_38 : decode cX3_callBack 38 = .ok (.goto 4, 3) := by decide +kernel
theorem dX3_callBack_41 : decode cX3_callBack 41 = .ok (.iconst 0, 1) := by decide +kernel
theorem dX3_callBack_42 : decode cX3_callBack 42 = .ok (.istore 7, 2) := by decide +kernel
theorem dX3_callBack_44 : decode cX3_callBack 44 = .ok (.iload 7, 2) := by decide +kernel
theorem dX3_callBack_46 : decode cX3_callBack 46 = .ok (.ifCond .eq 44, 3) := by decide +kernel
theorem dX3_callBack_49 : decode cX3_callBack 49 = .ok (.aload_n 0, 1) := by decide +kernel
theorem dX3_callBack_50 : decode cX3_callBack 50 = .ok (.iload 6, 2) := by decide +kernel
theorem dX3_callBack_52 : decode cX3_callBack 52 = .ok (.iload_n 1, 1) := by decide +kernel
theorem dX3_callBack_53 : decode cX3_callBack 53 = .ok (.iload_n 2, 1) := by decide +kernel
theorem dX3_callBack_54 : decode cX3_callBack 54 = .ok (.invokevirtual 41, 3) := by decide +kernel
theorem dX3_callBack_57 : decode cX3_callBack 57 = .ok (.ifCond .eq 33, 3) := by decide +kernel
theorem dX3_callBack_60 : decode cX3_callBack 60 = .ok (.aload_n 0, 1) := by decide +kernel
theorem dX3_callBack_61 : decode cX3_callBack 61 = .ok (.getfield 24, 3) := by decide +kernel
theorem dX3_callBack_64 : decode cX3_callBack 64 = .ok (.iload 6, 2) := by decide +kernel
theorem dX3_callBack_66 : decode cX3_callBack 66 = .ok (.iaload, 1) := by decide +kernel
theorem dX3_callBack_67 : decode cX3_callBack 67 = .ok (.iconst 1, 1) := by decide +kernel
theorem dX3_callBack_68 : decode cX3_callBack 68 = .ok (.if_icmp .eq 22, 3) := by decide +kernel
theorem dX3_callBack_71 : decode cX3_callBack 71 = .ok (.aload_n 0, 1) := by decide +kernel
theorem dX3_callBack_72 : decode cX3_callBack 72 = .ok (.getfield 24, 3) := by decide +kernel
theorem dX3_callBack_75 : decode cX3_callBack 75 = .ok (.iload 6, 2) := by decide +kernel
theorem dX3_callBack_77 : decode cX3_callBack 77 = .ok (.iconst 2, 1) := by decide +kernel
theorem dX3_callBack_78 : decode cX3_callBack 78 = .ok (.iastore, 1) := by decide +kernel
theorem dX3_callBack_79 : decode cX3_callBack 79 = .ok (.lload 4, 2) := by decide +kernel
theorem dX3_callBack_81 : decode cX3_callBack 81 = .ok (.aload_n 0, 1) := by decide +kernel
theorem dX3_callBack_82 : decode cX3_callBack 82 = .ok (.iload 6, 2) := by decide +kernel
theorem dX3_callBack_84 : decode cX3_callBack 84 = .ok (.invokevirtual 45, 3) := by decide +kernel
theorem dX3_callBack_87 : decode cX3_callBack 87 = .ok (.ladd, 1) := by decide +kernel
theorem dX3_callBack_88 : decode cX3_callBack 88 = .ok (.lstore 4, 2) := by decide +kernel
theorem dX3_callBack_90 : decode cX3_callBack 90 = .ok (.iinc 6 1, 3) := by decide +kernel
theorem dX3_callBack_93 : decode cX3_callBack 93 = .ok (.goto (-87), 3) := by decide +kernel
theorem dX3_callBack_96 : decode cX3_callBack 96 = .ok (.lload 4, 2) := by decide +kernel
theorem dX3_callBack_98 : decode cX3_callBack 98 = .ok (.lreturn, 1) := by decide +kernel

set_option maxHeartbeats 4000000 in
set_option maxRecDepth 100000 in
theorem kX3_has (l : Launch) (dC : Nat → ClassId) (dI : Nat → Nat → Nat) (ca : Nat → ClassId) (ad : Nat → Nat) (S : sSt) (rr : Int32) : ct_I l yX3_has (Cond.code yX3_has cX3_has 2 (some .boolean) :: wa_T) ({ frames := 0, cells := 0, slots := 0, locals := 0 } : Room) (dC, dI) vwCl (tyl ca) (wc ca ad) S [.ref (ad 3), .int rr] (fun r S2 => r = bI (hrw S rr) ∧ S2 = S) := by
  refine ct_ofI (by decide) (Nat.le_of_ble_eq_true rfl) ?_
  intro p e s m below meth c A ls hx hb hr hml hts hown hlocks hK hA hw hl
  have hl : lv_has ls 2 [(0, .ref (ad 3)), (1, .int rr)] := hl
  refine lv_iload_n hx hb dX3_has_0 rfl (lv_at hl 1 rfl) ?_
  refine lv_iconst (v := nI 1) hx hb dX3_has_1 (by decide) ?_
  refine lv_icmp_lt (tgt := 17) hx hb dX3_has_2 (by decide) (fun c_1 => ?_) (fun c_1 => ?_)
  · skip
    refine lv_iconst (v := nI 0) hx hb dX3_has_17 (by decide) ?_
    exact ct_zret (S := S) (v := nI 0) hx hb hr hlocks hK (by first | decide | exact nb_z _) hw (⟨by simp only [bI, hrw, c_1, decide_true, decide_false, Bool.not_true, Bool.not_false, Bool.true_and, Bool.and_true, Bool.false_and, Bool.and_false, Bool.or_true, Bool.true_or, Bool.or_false, Bool.false_or, Bool.false_eq_true, Bool.true_eq_false, if_true, if_false, ↓reduceIte], rfl⟩) dX3_has_18
  · skip
    refine lv_iload_n hx hb dX3_has_5 rfl (lv_at hl 1 rfl) ?_
    refine lv_aload_n hx hb dX3_has_6 rfl (lv_at hl 0 rfl) ?_
    refine wo_get hx hb hts inX3 hown hK hw 3 rfl rfl 0 (by decide) (hts _ wd_89) (fun _ h9 => h9) rfl dX3_has_7 ?_
    refine lv_icmp_gt (tgt := 17) hx hb dX3_has_10 (by decide) (fun c_2 => ?_) (fun c_2 => ?_)
    · skip
      refine lv_iconst (v := nI 0) hx hb dX3_has_17 (by decide) ?_
      exact ct_zret (S := S) (v := nI 0) hx hb hr hlocks hK (by first | decide | exact nb_z _) hw (⟨by simp only [bI, hrw, c_1, c_2, decide_true, decide_false, Bool.not_true, Bool.not_false, Bool.true_and, Bool.and_true, Bool.false_and, Bool.and_false, Bool.or_true, Bool.true_or, Bool.or_false, Bool.false_or, Bool.false_eq_true, Bool.true_eq_false, if_true, if_false, ↓reduceIte], rfl⟩) dX3_has_18
    · skip
      refine lv_iconst (v := nI 1) hx hb dX3_has_13 (by decide) ?_
      refine lv_goto (tgt := 18) hx hb dX3_has_14 (by decide) ?_
      exact ct_zret (S := S) (v := nI 1) hx hb hr hlocks hK (by first | decide | exact nb_z _) hw (⟨by simp only [bI, hrw, c_1, c_2, decide_true, decide_false, Bool.not_true, Bool.not_false, Bool.true_and, Bool.and_true, Bool.false_and, Bool.and_false, Bool.or_true, Bool.true_or, Bool.or_false, Bool.false_or, Bool.false_eq_true, Bool.true_eq_false, if_true, if_false, ↓reduceIte], rfl⟩) dX3_has_18

set_option maxHeartbeats 4000000 in
set_option maxRecDepth 100000 in
theorem kX3_isOf (l : Launch) (dC : Nat → ClassId) (dI : Nat → Nat → Nat) (ca : Nat → ClassId) (ad : Nat → Nat) (S : sSt) (rr : Nat) (bb : Nat) (sd : Nat) (hr : rr < 201) : ct_I l yX3_isOf (Cond.code yX3_isOf cX3_isOf 4 (some .boolean) :: wa_T) ({ frames := 0, cells := 0, slots := 0, locals := 0 } : Room) (dC, dI) vwCl (tyl ca) (wc ca ad) S [.ref (ad 3), .int (nI rr), .int (nI bb), .int (nI sd)] (fun r S2 => r = bI (isOf S rr bb sd) ∧ S2 = S) := by
  refine ct_ofI (by decide) (Nat.le_of_ble_eq_true rfl) ?_
  intro p e s m below meth c A ls hx hb hr hml hts hown hlocks hK hA hw hl
  have hl : lv_has ls 4 [(0, .ref (ad 3)), (1, .int (nI rr)), (2, .int (nI bb)), (3, .int (nI sd))] := hl
  refine lv_aload_n hx hb dX3_isOf_0 rfl (lv_at hl 0 rfl) ?_
  refine wo_get hx hb hts inX3 hown hK hw 3 rfl rfl 1 (by decide) (hts _ wd_91) (fun _ h9 => h9) rfl dX3_isOf_1 ?_
  refine lv_iload_n hx hb dX3_isOf_4 rfl (lv_at hl 1 rfl) ?_
  refine wo_iald hx hb hK hw 26 0 rfl rfl rr rfl (by first | assumption | omega) (by decide) dX3_isOf_5 ?_
  refine lv_iload_n hx hb dX3_isOf_6 rfl (lv_at hl 2 rfl) ?_
  refine lv_icmp_ne (tgt := 24) hx hb dX3_isOf_7 (by decide) (fun c_1 => ?_) (fun c_1 => ?_)
  · skip
    refine lv_iconst (v := nI 0) hx hb dX3_isOf_24 (by decide) ?_
    exact ct_zret (S := S) (v := nI 0) hx hb hr hlocks hK (by first | decide | exact nb_z _) hw (⟨by simp only [bI, isOf, c_1, decide_true, decide_false, Bool.not_true, Bool.not_false, Bool.true_and, Bool.and_true, Bool.false_and, Bool.and_false, Bool.or_true, Bool.true_or, Bool.or_false, Bool.false_or, Bool.false_eq_true, Bool.true_eq_false, if_true, if_false, ↓reduceIte], rfl⟩) dX3_isOf_25
  · skip
    refine lv_aload_n hx hb dX3_isOf_10 rfl (lv_at hl 0 rfl) ?_
    refine wo_get hx hb hts inX3 hown hK hw 3 rfl rfl 2 (by decide) (hts _ wd_93) (fun _ h9 => h9) rfl dX3_isOf_11 ?_
    refine lv_iload_n hx hb dX3_isOf_14 rfl (lv_at hl 1 rfl) ?_
    refine wo_iald hx hb hK hw 27 0 rfl rfl rr rfl (by first | assumption | omega) (by decide) dX3_isOf_15 ?_
    refine lv_iload_n hx hb dX3_isOf_16 rfl (lv_at hl 3 rfl) ?_
    refine lv_icmp_ne (tgt := 24) hx hb dX3_isOf_17 (by decide) (fun c_2 => ?_) (fun c_2 => ?_)
    · skip
      refine lv_iconst (v := nI 0) hx hb dX3_isOf_24 (by decide) ?_
      exact ct_zret (S := S) (v := nI 0) hx hb hr hlocks hK (by first | decide | exact nb_z _) hw (⟨by simp only [bI, isOf, c_1, c_2, decide_true, decide_false, Bool.not_true, Bool.not_false, Bool.true_and, Bool.and_true, Bool.false_and, Bool.and_false, Bool.or_true, Bool.true_or, Bool.or_false, Bool.false_or, Bool.false_eq_true, Bool.true_eq_false, if_true, if_false, ↓reduceIte], rfl⟩) dX3_isOf_25
    · skip
      refine lv_iconst (v := nI 1) hx hb dX3_isOf_20 (by decide) ?_
      refine lv_goto (tgt := 25) hx hb dX3_isOf_21 (by decide) ?_
      exact ct_zret (S := S) (v := nI 1) hx hb hr hlocks hK (by first | decide | exact nb_z _) hw (⟨by simp only [bI, isOf, c_1, c_2, decide_true, decide_false, Bool.not_true, Bool.not_false, Bool.true_and, Bool.and_true, Bool.false_and, Bool.and_false, Bool.or_true, Bool.true_or, Bool.or_false, Bool.false_or, Bool.false_eq_true, Bool.true_eq_false, if_true, if_false, ↓reduceIte], rfl⟩) dX3_isOf_25

set_option maxHeartbeats 4000000 in
set_option maxRecDepth 100000 in
theorem kX3_open (l : Launch) (dC : Nat → ClassId) (dI : Nat → Nat → Nat) (ca : Nat → ClassId) (ad : Nat → Nat) (S : sSt) (bb : Nat) (sd : Nat) (fr : Nat) (to : Nat) (vv : Int64) (nr : Nat) (hr : nr < 200) (hcnt : S.1 3 0 = nI nr) : ct_I l yX3_open (Cond.code yX3_open cX3_open 7 (some .int) :: wa_T) ({ frames := 0, cells := 0, slots := 0, locals := 0 } : Room) (dC, dI) vwCl (tyl ca) (wc ca ad) S [.ref (ad 3), .int (nI bb), .int (nI sd), .int (nI fr), .int (nI to), .long vv] (fun r S2 => r = nI (nr + 1) ∧ S2 = ropen S nr bb sd fr to vv) := by
  refine ct_ofI (by decide) (Nat.le_of_ble_eq_true rfl) ?_
  intro p e s m below meth c A ls hx hb hr hml hts hown hlocks hK hA hw hl
  have hl : lv_has ls 7 [(0, .ref (ad 3)), (1, .int (nI bb)), (2, .int (nI sd)), (3, .int (nI fr)), (4, .int (nI to)), (5, .long vv)] := hl
  refine lv_aload_n hx hb dX3_open_0 rfl (lv_at hl 0 rfl) ?_
  refine lv_dup hx hb dX3_open_1 rfl ?_
  refine wo_get hx hb hts inX3 hown hK hw 3 rfl rfl 0 (by decide) (hts _ wd_89) (fun _ h9 => h9) rfl dX3_open_2 ?_
  refine tp_i (y := nI nr) (hcnt) ?_
  refine lv_iconst (v := nI 1) hx hb dX3_open_5 (by decide) ?_
  refine lv_iadd hx hb dX3_open_6 ?_
  refine tp_i (nI_add nr 1) ?_
  refine wo_put (ty := .int) (v := .int (nI (nr + 1))) hx hb hts inX3 tyX3 tyX3_ok nmX3 hown hK hw 3 rfl rfl 0 (by decide) (hts _ wd_89) (fun _ h9 => h9) rfl (by decide +kernel) rfl rfl (Nat.le_of_ble_eq_true rfl) (sf_3_0 ca ad S (nI (nr + 1))) dX3_open_7 (fun H locs hw => ?_)
  refine lv_aload_n hx hb dX3_open_10 rfl (lv_at hl 0 rfl) ?_
  refine wo_get hx hb hts inX3 hown hK hw 3 rfl rfl 1 (by decide) (hts _ wd_91) (fun _ h9 => h9) rfl dX3_open_11 ?_
  refine lv_aload_n hx hb dX3_open_14 rfl (lv_at hl 0 rfl) ?_
  refine wo_get hx hb hts inX3 hown hK hw 3 rfl rfl 0 (by decide) (hts _ wd_89) (fun _ h9 => h9) rfl dX3_open_15 ?_
  refine tp_i (y := nI (nr + 1)) (rfl) ?_
  refine lv_iload_n hx hb dX3_open_18 rfl (lv_at hl 1 rfl) ?_
  refine wo_iast hx hb hK hw 26 0 rfl rfl (nr + 1) rfl (by first | assumption | omega) (by decide) (se_26 ca ad (sI S 3 0 (nI (nr + 1))) (nr + 1) (nI bb)) dX3_open_19 (fun H locs hw => ?_)
  refine lv_aload_n hx hb dX3_open_20 rfl (lv_at hl 0 rfl) ?_
  refine wo_get hx hb hts inX3 hown hK hw 3 rfl rfl 2 (by decide) (hts _ wd_93) (fun _ h9 => h9) rfl dX3_open_21 ?_
  refine lv_aload_n hx hb dX3_open_24 rfl (lv_at hl 0 rfl) ?_
  refine wo_get hx hb hts inX3 hown hK hw 3 rfl rfl 0 (by decide) (hts _ wd_89) (fun _ h9 => h9) rfl dX3_open_25 ?_
  refine tp_i (y := nI (nr + 1)) (rfl) ?_
  refine lv_iload_n hx hb dX3_open_28 rfl (lv_at hl 2 rfl) ?_
  refine wo_iast hx hb hK hw 27 0 rfl rfl (nr + 1) rfl (by first | assumption | omega) (by decide) (se_27 ca ad (sI (sI S 3 0 (nI (nr + 1))) 26 (nr + 1) (nI bb)) (nr + 1) (nI sd)) dX3_open_29 (fun H locs hw => ?_)
  refine lv_aload_n hx hb dX3_open_30 rfl (lv_at hl 0 rfl) ?_
  refine wo_get hx hb hts inX3 hown hK hw 3 rfl rfl 3 (by decide) (hts _ wd_95) (fun _ h9 => h9) rfl dX3_open_31 ?_
  refine lv_aload_n hx hb dX3_open_34 rfl (lv_at hl 0 rfl) ?_
  refine wo_get hx hb hts inX3 hown hK hw 3 rfl rfl 0 (by decide) (hts _ wd_89) (fun _ h9 => h9) rfl dX3_open_35 ?_
  refine tp_i (y := nI (nr + 1)) (rfl) ?_
  refine lv_iload_n hx hb dX3_open_38 rfl (lv_at hl 3 rfl) ?_
  refine wo_iast hx hb hK hw 28 0 rfl rfl (nr + 1) rfl (by first | assumption | omega) (by decide) (se_28 ca ad (sI (sI (sI S 3 0 (nI (nr + 1))) 26 (nr + 1) (nI bb)) 27 (nr + 1) (nI sd)) (nr + 1) (nI fr)) dX3_open_39 (fun H locs hw => ?_)
  refine lv_aload_n hx hb dX3_open_40 rfl (lv_at hl 0 rfl) ?_
  refine wo_get hx hb hts inX3 hown hK hw 3 rfl rfl 4 (by decide) (hts _ wd_97) (fun _ h9 => h9) rfl dX3_open_41 ?_
  refine lv_aload_n hx hb dX3_open_44 rfl (lv_at hl 0 rfl) ?_
  refine wo_get hx hb hts inX3 hown hK hw 3 rfl rfl 0 (by decide) (hts _ wd_89) (fun _ h9 => h9) rfl dX3_open_45 ?_
  refine tp_i (y := nI (nr + 1)) (rfl) ?_
  refine lv_iload hx hb dX3_open_48 (lv_at hl 4 rfl) ?_
  refine wo_iast hx hb hK hw 29 0 rfl rfl (nr + 1) rfl (by first | assumption | omega) (by decide) (se_29 ca ad (sI (sI (sI (sI S 3 0 (nI (nr + 1))) 26 (nr + 1) (nI bb)) 27 (nr + 1) (nI sd)) 28 (nr + 1) (nI fr)) (nr + 1) (nI to)) dX3_open_50 (fun H locs hw => ?_)
  refine lv_aload_n hx hb dX3_open_51 rfl (lv_at hl 0 rfl) ?_
  refine wo_get hx hb hts inX3 hown hK hw 3 rfl rfl 7 (by decide) (hts _ wd_103) (fun _ h9 => h9) rfl dX3_open_52 ?_
  refine lv_aload_n hx hb dX3_open_55 rfl (lv_at hl 0 rfl) ?_
  refine wo_get hx hb hts inX3 hown hK hw 3 rfl rfl 0 (by decide) (hts _ wd_89) (fun _ h9 => h9) rfl dX3_open_56 ?_
  refine tp_i (y := nI (nr + 1)) (rfl) ?_
  refine lv_lload hx hb dX3_open_59 (lv_at hl 5 rfl) ?_
  refine wo_last hx hb hK hw 32 1 rfl rfl (nr + 1) rfl (by first | assumption | omega) (by decide) (se_32 ca ad (sI (sI (sI (sI (sI S 3 0 (nI (nr + 1))) 26 (nr + 1) (nI bb)) 27 (nr + 1) (nI sd)) 28 (nr + 1) (nI fr)) 29 (nr + 1) (nI to)) (nr + 1) vv) dX3_open_61 (fun H locs hw => ?_)
  refine lv_aload_n hx hb dX3_open_62 rfl (lv_at hl 0 rfl) ?_
  refine wo_get hx hb hts inX3 hown hK hw 3 rfl rfl 8 (by decide) (hts _ wd_105) (fun _ h9 => h9) rfl dX3_open_63 ?_
  refine lv_aload_n hx hb dX3_open_66 rfl (lv_at hl 0 rfl) ?_
  refine wo_get hx hb hts inX3 hown hK hw 3 rfl rfl 0 (by decide) (hts _ wd_89) (fun _ h9 => h9) rfl dX3_open_67 ?_
  refine tp_i (y := nI (nr + 1)) (rfl) ?_
  refine lv_lload hx hb dX3_open_70 (lv_at hl 5 rfl) ?_
  refine wo_last hx hb hK hw 33 1 rfl rfl (nr + 1) rfl (by first | assumption | omega) (by decide) (se_33 ca ad (sL (sI (sI (sI (sI (sI S 3 0 (nI (nr + 1))) 26 (nr + 1) (nI bb)) 27 (nr + 1) (nI sd)) 28 (nr + 1) (nI fr)) 29 (nr + 1) (nI to)) 32 (nr + 1) vv) (nr + 1) vv) dX3_open_72 (fun H locs hw => ?_)
  refine lv_aload_n hx hb dX3_open_73 rfl (lv_at hl 0 rfl) ?_
  refine wo_get hx hb hts inX3 hown hK hw 3 rfl rfl 0 (by decide) (hts _ wd_89) (fun _ h9 => h9) rfl dX3_open_74 ?_
  refine tp_i (y := nI (nr + 1)) (rfl) ?_
  exact ct_iret (S := sL (sL (sI (sI (sI (sI (sI S 3 0 (nI (nr + 1))) 26 (nr + 1) (nI bb)) 27 (nr + 1) (nI sd)) 28 (nr + 1) (nI fr)) 29 (nr + 1) (nI to)) 32 (nr + 1) vv) 33 (nr + 1) vv) (v := nI (nr + 1)) hx hb hr hlocks hK hw (⟨rfl, rfl⟩) dX3_open_77

set_option maxHeartbeats 4000000 in
set_option maxRecDepth 100000 in
theorem kX3_empty (l : Launch) (dC : Nat → ClassId) (dI : Nat → Nat → Nat) (ca : Nat → ClassId) (ad : Nat → Nat) (S : sSt) (rr : Nat) (hr : rr < 201) : ct_L l yX3_empty (Cond.code yX3_empty cX3_empty 4 (some .long) :: wa_T) ({ frames := 0, cells := 0, slots := 0, locals := 0 } : Room) (dC, dI) vwCl (tyl ca) (wc ca ad) S [.ref (ad 3), .int (nI rr)] (fun r S2 => r = S.2 33 rr ∧ S2 = sL S 33 rr 0) := by
  refine ct_ofL (by decide) (Nat.le_of_ble_eq_true rfl) ?_
  intro p e s m below meth c A ls hx hb hr hml hts hown hlocks hK hA hw hl
  have hl : lv_has ls 4 [(0, .ref (ad 3)), (1, .int (nI rr))] := hl
  refine lv_aload_n hx hb dX3_empty_0 rfl (lv_at hl 0 rfl) ?_
  refine wo_get hx hb hts inX3 hown hK hw 3 rfl rfl 8 (by decide) (hts _ wd_105) (fun _ h9 => h9) rfl dX3_empty_1 ?_
  refine lv_iload_n hx hb dX3_empty_4 rfl (lv_at hl 1 rfl) ?_
  refine wo_lald hx hb hK hw 33 1 rfl rfl rr rfl (by first | assumption | omega) (by decide) dX3_empty_5 ?_
  refine lv_lstore_n (lv' := [(2, .long (S.2 33 rr)), (0, .ref (ad 3)), (1, .int (nI rr))]) hx hb dX3_empty_6 rfl hl (by decide) rfl (fun ls hl => ?_)
  refine lv_aload_n hx hb dX3_empty_7 rfl (lv_at hl 1 rfl) ?_
  refine wo_get hx hb hts inX3 hown hK hw 3 rfl rfl 8 (by decide) (hts _ wd_105) (fun _ h9 => h9) rfl dX3_empty_8 ?_
  refine lv_iload_n hx hb dX3_empty_11 rfl (lv_at hl 2 rfl) ?_
  refine lv_lconst (v := 0) hx hb dX3_empty_12 (by decide) ?_
  refine wo_last hx hb hK hw 33 1 rfl rfl rr rfl (by first | assumption | omega) (by decide) (se_33 ca ad S rr 0) dX3_empty_13 (fun H locs hw => ?_)
  refine lv_lload_n hx hb dX3_empty_14 rfl (lv_at hl 0 rfl) ?_
  exact ct_lret (S := sL S 33 rr 0) (v := S.2 33 rr) hx hb hr hlocks hK hw (⟨rfl, rfl⟩) dX3_empty_15

set_option maxHeartbeats 4000000 in
set_option maxRecDepth 100000 in
theorem kX3_callBack (l : Launch) (dC : Nat → ClassId) (dI : Nat → Nat → Nat) (ca : Nat → ClassId) (ad : Nat → Nat) (S : sSt) (bb : Nat) (sd : Nat) (pp : Nat) (nr : Nat) (hr : nr ≤ 200) (hcnt : S.1 3 0 = nI nr) : ct_L l yX3_callBack (Cond.code yX3_callBack cX3_callBack 8 (some .long) :: wa_T) ({ frames := 1, cells := 0, slots := 0, locals := 23 } : Room) (dC, dI) vwCl (tyl ca) (wc ca ad) S [.ref (ad 3), .int (nI bb), .int (nI sd), .int (nI pp)] (fun r S2 => r = (cbk S bb sd pp nr).2 ∧ S2 = (cbk S bb sd pp nr).1) := by
  refine ct_ofL (by decide) (Nat.le_of_ble_eq_true rfl) ?_
  intro p e s m below meth c A ls hx hb hr hml hts hown hlocks hK hA hw hl
  have hl : lv_has ls 8 [(0, .ref (ad 3)), (1, .int (nI bb)), (2, .int (nI sd)), (3, .int (nI pp))] := hl
  refine lv_lconst (v := 0) hx hb dX3_callBack_0 (by decide) ?_
  refine lv_lstore (lv' := [(4, .long 0), (0, .ref (ad 3)), (1, .int (nI bb)), (2, .int (nI sd)), (3, .int (nI pp))]) hx hb dX3_callBack_1 hl (by decide) rfl (fun ls hl => ?_)
  refine lv_iconst (v := nI 1) hx hb dX3_callBack_3 (by decide) ?_
  refine lv_istore (lv' := [(6, .int (nI 1)), (4, .long 0), (0, .ref (ad 3)), (1, .int (nI bb)), (2, .int (nI sd)), (3, .int (nI pp))]) hx hb dX3_callBack_4 hl (by decide) rfl (fun ls hl => ?_)
  have lp_6 : ∀ (n : Nat) (i : Nat), i ≤ nr → nr + 1 ≤ i + n → ∀ (H : Heap) (locs : List Loc) (ls : Array Slot), wo_w (dC, dI) vwCl A s.heap (wc ca ad ((cbk S bb sd pp i).1)) H locs → lv_has ls 8 [(0, .ref (ad 3)), (1, .int (nI bb)), (2, .int (nI sd)), (3, .int (nI pp)), (4, .long ((cbk S bb sd pp i).2)), (6, .int (nI (i + 1)))] → W p l e ({ frames := 1, cells := 0, slots := 0, locals := 23 } : Room) s m ([.ref (ad 3), .int (nI bb), .int (nI sd), .int (nI pp)] : List Value).toArray below meth c H locs 0 0 (MQ below (va_Ql (fun r S2 => r = (cbk S bb sd pp nr).2 ∧ S2 = (cbk S bb sd pp nr).1) (ct_B (dC, dI) vwCl (tyl ca) (wc ca ad) A) A) ([.ref (ad 3), .int (nI bb), .int (nI sd), .int (nI pp)] : List Value).toArray s 0 0 A) (F0 m 6 ls []) := by
    intro n
    induction n with
    | zero =>
      intro i hi hn
      exfalso
      omega
    | succ n ih_6 =>
      intro i hi hn H locs ls hw hl
      refine lv_iload hx hb dX3_callBack_6 (lv_at hl 5 rfl) ?_
      refine lv_aload_n hx hb dX3_callBack_8 rfl (lv_at hl 0 rfl) ?_
      refine wo_get hx hb hts inX3 hown hK hw 3 rfl rfl 0 (by decide) (hts _ wd_89) (fun _ h9 => h9) rfl dX3_callBack_9 ?_
      refine tp_i (y := nI nr) (by rw [cbk_cnt]; exact hcnt) ?_
      refine lv_icmp_gt (tgt := 96) hx hb dX3_callBack_12 (by decide) (fun c_1 => ?_) (fun c_1 => ?_)
      · skip
        have c_1 : nr < (i + 1) := (nI_ltI (a := nr) (b := i + 1) (by omega) (by omega)).mp c_1
        obtain rfl : nr = i := by omega
        refine lv_lload hx hb dX3_callBack_96 (lv_at hl 4 rfl) ?_
        exact ct_lret (S := (cbk S bb sd pp nr).1) (v := (cbk S bb sd pp nr).2) hx hb hr hlocks hK hw (⟨rfl, rfl⟩) dX3_callBack_98
      · skip
        have c_1 : ¬ (nr < (i + 1)) := fun h9 => c_1 ((nI_ltI (a := nr) (b := i + 1) (by omega) (by omega)).mpr h9)
        refine lv_aload_n hx hb dX3_callBack_15 rfl (lv_at hl 0 rfl) ?_
        refine wo_get hx hb hts inX3 hown hK hw 3 rfl rfl 3 (by decide) (hts _ wd_95) (fun _ h9 => h9) rfl dX3_callBack_16 ?_
        refine lv_iload hx hb dX3_callBack_19 (lv_at hl 5 rfl) ?_
        refine wo_iald hx hb hK hw 28 0 rfl rfl (i + 1) rfl (by first | assumption | omega) (by decide) dX3_callBack_21 ?_
        refine lv_iload_n hx hb dX3_callBack_22 rfl (lv_at hl 3 rfl) ?_
        refine lv_icmp_eq (tgt := 37) hx hb dX3_callBack_23 (by decide) (fun c_2 => ?_) (fun c_2 => ?_)
        · skip
          refine lv_iconst (v := nI 1) hx hb dX3_callBack_37 (by decide) ?_
          refine lv_goto (tgt := 42) hx hb dX3_callBack_38 (by decide) ?_
          refine lv_istore (lv' := [(7, .int (nI 1)), (0, .ref (ad 3)), (1, .int (nI bb)), (2, .int (nI sd)), (3, .int (nI pp)), (4, .long ((cbk S bb sd pp i).2)), (6, .int (nI (i + 1)))]) hx hb dX3_callBack_42 hl (by decide) rfl (fun ls hl => ?_)
          refine lv_iload hx hb dX3_callBack_44 (lv_at hl 0 rfl) ?_
          refine lv_if_eq (tgt := 90) hx hb dX3_callBack_46 (by decide) (fun c9 => absurd c9 (by decide)) (fun _ => ?_)
          refine lv_aload_n hx hb dX3_callBack_49 rfl (lv_at hl 1 rfl) ?_
          refine lv_iload hx hb dX3_callBack_50 (lv_at hl 6 rfl) ?_
          refine lv_iload_n hx hb dX3_callBack_52 rfl (lv_at hl 2 rfl) ?_
          refine lv_iload_n hx hb dX3_callBack_53 rfl (lv_at hl 3 rfl) ?_
          refine wo_vI (As := [.int (nI (i + 1)), .int (nI bb), .int (nI sd)]) (rest := []) (kX3_isOf l dC dI ca ad ((cbk S bb sd pp i).1) (i + 1) bb sd (by first | assumption | omega)) ⟨hx, hb, hml, hown, hts⟩ (cwV 3 hts (wa_gV wd_321 wd_322 wd_323 wd_5 wd_324) rfl rfl rfl (by decide +kernel) ⟨Nat.le_of_ble_eq_true rfl, Nat.le_of_ble_eq_true rfl⟩) hK hw hA 3 rfl rfl rfl rfl hl.1 rfl (Nat.le_of_ble_eq_true rfl) dX3_callBack_54 ⟨Nat.zero_le _, Nat.zero_le _⟩ (fun r_3 S_3 H locs hp_3 hw => ?_)
          have e9 := hp_3.1.symm
          subst e9
          have e9 := hp_3.2.symm
          subst e9
          refine lv_if_eq (tgt := 90) hx hb dX3_callBack_57 (by decide) (fun c_4 => ?_) (fun c_4 => ?_)
          · skip
            have c_4 : isOf ((cbk S bb sd pp i).1) (i + 1) bb sd = false := nb_0 c_4
            refine lv_iinc (v := nI ((i + 1) + 1)) (lv' := [(6, .int (nI ((i + 1) + 1))), (7, .int (nI 1)), (0, .ref (ad 3)), (1, .int (nI bb)), (2, .int (nI sd)), (3, .int (nI pp)), (4, .long ((cbk S bb sd pp i).2))]) hx hb dX3_callBack_90 hl (k := 6) rfl (nI_inc _) (by decide) rfl (fun ls hl => ?_)
            refine lv_goto (tgt := 6) hx hb dX3_callBack_93 (by decide) ?_
            have e9 : (cbk S bb sd pp i).2 = (cbk S bb sd pp (i + 1)).2 := by first | rfl | (simp only [cbk, c_1, c_2, c_4, decide_true, decide_false, Bool.not_true, Bool.not_false, Bool.true_and, Bool.and_true, Bool.false_and, Bool.and_false, Bool.or_true, Bool.true_or, Bool.or_false, Bool.false_or, Bool.false_eq_true, Bool.true_eq_false, if_true, if_false, ↓reduceIte]; done) | (simp only [cbk, c_1, c_2, c_4, decide_true, decide_false, Bool.not_true, Bool.not_false, Bool.true_and, Bool.and_true, Bool.false_and, Bool.and_false, Bool.or_true, Bool.true_or, Bool.or_false, Bool.false_or, Bool.false_eq_true, Bool.true_eq_false, if_true, if_false, ↓reduceIte]; rfl)
            rw [e9] at hl
            have e9 : (cbk S bb sd pp i).1 = (cbk S bb sd pp (i + 1)).1 := by first | rfl | (simp only [cbk, c_1, c_2, c_4, decide_true, decide_false, Bool.not_true, Bool.not_false, Bool.true_and, Bool.and_true, Bool.false_and, Bool.and_false, Bool.or_true, Bool.true_or, Bool.or_false, Bool.false_or, Bool.false_eq_true, Bool.true_eq_false, if_true, if_false, ↓reduceIte]; done) | (simp only [cbk, c_1, c_2, c_4, decide_true, decide_false, Bool.not_true, Bool.not_false, Bool.true_and, Bool.and_true, Bool.false_and, Bool.and_false, Bool.or_true, Bool.true_or, Bool.or_false, Bool.false_or, Bool.false_eq_true, Bool.true_eq_false, if_true, if_false, ↓reduceIte]; rfl)
            rw [e9] at hw
            exact ih_6 (i + 1) (by omega) (by omega) _ _ _ hw (lv_sub hl [2, 3, 4, 5, 6, 0] rfl)
          · skip
            have c_4 : isOf ((cbk S bb sd pp i).1) (i + 1) bb sd = true := nb_1 c_4
            refine lv_aload_n hx hb dX3_callBack_60 rfl (lv_at hl 1 rfl) ?_
            refine wo_get hx hb hts inX3 hown hK hw 3 rfl rfl 5 (by decide) (hts _ wd_99) (fun _ h9 => h9) rfl dX3_callBack_61 ?_
            refine lv_iload hx hb dX3_callBack_64 (lv_at hl 6 rfl) ?_
            refine wo_iald hx hb hK hw 30 0 rfl rfl (i + 1) rfl (by first | assumption | omega) (by decide) dX3_callBack_66 ?_
            refine lv_iconst (v := nI 1) hx hb dX3_callBack_67 (by decide) ?_
            refine lv_icmp_eq (tgt := 90) hx hb dX3_callBack_68 (by decide) (fun c_5 => ?_) (fun c_5 => ?_)
            · skip
              refine lv_iinc (v := nI ((i + 1) + 1)) (lv' := [(6, .int (nI ((i + 1) + 1))), (7, .int (nI 1)), (0, .ref (ad 3)), (1, .int (nI bb)), (2, .int (nI sd)), (3, .int (nI pp)), (4, .long ((cbk S bb sd pp i).2))]) hx hb dX3_callBack_90 hl (k := 6) rfl (nI_inc _) (by decide) rfl (fun ls hl => ?_)
              refine lv_goto (tgt := 6) hx hb dX3_callBack_93 (by decide) ?_
              have e9 : (cbk S bb sd pp i).2 = (cbk S bb sd pp (i + 1)).2 := by first | rfl | (simp only [cbk, c_1, c_2, c_4, c_5, decide_true, decide_false, Bool.not_true, Bool.not_false, Bool.true_and, Bool.and_true, Bool.false_and, Bool.and_false, Bool.or_true, Bool.true_or, Bool.or_false, Bool.false_or, Bool.false_eq_true, Bool.true_eq_false, if_true, if_false, ↓reduceIte]; done) | (simp only [cbk, c_1, c_2, c_4, c_5, decide_true, decide_false, Bool.not_true, Bool.not_false, Bool.true_and, Bool.and_true, Bool.false_and, Bool.and_false, Bool.or_true, Bool.true_or, Bool.or_false, Bool.false_or, Bool.false_eq_true, Bool.true_eq_false, if_true, if_false, ↓reduceIte]; rfl)
              rw [e9] at hl
              have e9 : (cbk S bb sd pp i).1 = (cbk S bb sd pp (i + 1)).1 := by first | rfl | (simp only [cbk, c_1, c_2, c_4, c_5, decide_true, decide_false, Bool.not_true, Bool.not_false, Bool.true_and, Bool.and_true, Bool.false_and, Bool.and_false, Bool.or_true, Bool.true_or, Bool.or_false, Bool.false_or, Bool.false_eq_true, Bool.true_eq_false, if_true, if_false, ↓reduceIte]; done) | (simp only [cbk, c_1, c_2, c_4, c_5, decide_true, decide_false, Bool.not_true, Bool.not_false, Bool.true_and, Bool.and_true, Bool.false_and, Bool.and_false, Bool.or_true, Bool.true_or, Bool.or_false, Bool.false_or, Bool.false_eq_true, Bool.true_eq_false, if_true, if_false, ↓reduceIte]; rfl)
              rw [e9] at hw
              exact ih_6 (i + 1) (by omega) (by omega) _ _ _ hw (lv_sub hl [2, 3, 4, 5, 6, 0] rfl)
            · skip
              refine lv_aload_n hx hb dX3_callBack_71 rfl (lv_at hl 1 rfl) ?_
              refine wo_get hx hb hts inX3 hown hK hw 3 rfl rfl 5 (by decide) (hts _ wd_99) (fun _ h9 => h9) rfl dX3_callBack_72 ?_
              refine lv_iload hx hb dX3_callBack_75 (lv_at hl 6 rfl) ?_
              refine lv_iconst (v := nI 2) hx hb dX3_callBack_77 (by decide) ?_
              refine wo_iast hx hb hK hw 30 0 rfl rfl (i + 1) rfl (by first | assumption | omega) (by decide) (se_30 ca ad ((cbk S bb sd pp i).1) (i + 1) (nI 2)) dX3_callBack_78 (fun H locs hw => ?_)
              refine lv_lload hx hb dX3_callBack_79 (lv_at hl 5 rfl) ?_
              refine lv_aload_n hx hb dX3_callBack_81 rfl (lv_at hl 1 rfl) ?_
              refine lv_iload hx hb dX3_callBack_82 (lv_at hl 6 rfl) ?_
              refine wo_vL (As := [.int (nI (i + 1))]) (rest := [.long ((cbk S bb sd pp i).2)]) (kX3_empty l dC dI ca ad (sI ((cbk S bb sd pp i).1) 30 (i + 1) (nI 2)) (i + 1) (by first | assumption | omega)) ⟨hx, hb, hml, hown, hts⟩ (cwV 1 hts (wa_gV wd_325 wd_274 wd_275 wd_5 wd_276) rfl rfl rfl (by decide +kernel) ⟨Nat.le_of_ble_eq_true rfl, Nat.le_of_ble_eq_true rfl⟩) hK hw hA 3 rfl rfl rfl rfl hl.1 rfl (Nat.le_of_ble_eq_true rfl) dX3_callBack_84 ⟨Nat.zero_le _, Nat.zero_le _⟩ (fun r_6 S_6 H locs hp_6 hw => ?_)
              have e9 := hp_6.1.symm
              subst e9
              have e9 := hp_6.2.symm
              subst e9
              refine lv_ladd hx hb dX3_callBack_87 ?_
              refine lv_lstore (lv' := [(4, .long (((cbk S bb sd pp i).2) + ((sI ((cbk S bb sd pp i).1) 30 (i + 1) (nI 2)).2 33 (i + 1)))), (7, .int (nI 1)), (0, .ref (ad 3)), (1, .int (nI bb)), (2, .int (nI sd)), (3, .int (nI pp)), (6, .int (nI (i + 1)))]) hx hb dX3_callBack_88 hl (by decide) rfl (fun ls hl => ?_)
              refine lv_iinc (v := nI ((i + 1) + 1)) (lv' := [(6, .int (nI ((i + 1) + 1))), (4, .long (((cbk S bb sd pp i).2) + ((sI ((cbk S bb sd pp i).1) 30 (i + 1) (nI 2)).2 33 (i + 1)))), (7, .int (nI 1)), (0, .ref (ad 3)), (1, .int (nI bb)), (2, .int (nI sd)), (3, .int (nI pp))]) hx hb dX3_callBack_90 hl (k := 6) rfl (nI_inc _) (by decide) rfl (fun ls hl => ?_)
              refine lv_goto (tgt := 6) hx hb dX3_callBack_93 (by decide) ?_
              have e9 : ((cbk S bb sd pp i).2) + ((sI ((cbk S bb sd pp i).1) 30 (i + 1) (nI 2)).2 33 (i + 1)) = (cbk S bb sd pp (i + 1)).2 := by first | rfl | (simp only [cbk, c_1, c_2, c_4, c_5, decide_true, decide_false, Bool.not_true, Bool.not_false, Bool.true_and, Bool.and_true, Bool.false_and, Bool.and_false, Bool.or_true, Bool.true_or, Bool.or_false, Bool.false_or, Bool.false_eq_true, Bool.true_eq_false, if_true, if_false, ↓reduceIte]; done) | (simp only [cbk, c_1, c_2, c_4, c_5, decide_true, decide_false, Bool.not_true, Bool.not_false, Bool.true_and, Bool.and_true, Bool.false_and, Bool.and_false, Bool.or_true, Bool.true_or, Bool.or_false, Bool.false_or, Bool.false_eq_true, Bool.true_eq_false, if_true, if_false, ↓reduceIte]; rfl)
              rw [e9] at hl
              have e9 : sL (sI ((cbk S bb sd pp i).1) 30 (i + 1) (nI 2)) 33 (i + 1) 0 = (cbk S bb sd pp (i + 1)).1 := by first | rfl | (simp only [cbk, c_1, c_2, c_4, c_5, decide_true, decide_false, Bool.not_true, Bool.not_false, Bool.true_and, Bool.and_true, Bool.false_and, Bool.and_false, Bool.or_true, Bool.true_or, Bool.or_false, Bool.false_or, Bool.false_eq_true, Bool.true_eq_false, if_true, if_false, ↓reduceIte]; done) | (simp only [cbk, c_1, c_2, c_4, c_5, decide_true, decide_false, Bool.not_true, Bool.not_false, Bool.true_and, Bool.and_true, Bool.false_and, Bool.and_false, Bool.or_true, Bool.true_or, Bool.or_false, Bool.false_or, Bool.false_eq_true, Bool.true_eq_false, if_true, if_false, ↓reduceIte]; rfl)
              rw [e9] at hw
              exact ih_6 (i + 1) (by omega) (by omega) _ _ _ hw (lv_sub hl [3, 4, 5, 6, 1, 0] rfl)
        · skip
          refine lv_aload_n hx hb dX3_callBack_26 rfl (lv_at hl 0 rfl) ?_
          refine wo_get hx hb hts inX3 hown hK hw 3 rfl rfl 4 (by decide) (hts _ wd_97) (fun _ h9 => h9) rfl dX3_callBack_27 ?_
          refine lv_iload hx hb dX3_callBack_30 (lv_at hl 5 rfl) ?_
          refine wo_iald hx hb hK hw 29 0 rfl rfl (i + 1) rfl (by first | assumption | omega) (by decide) dX3_callBack_32 ?_
          refine lv_iload_n hx hb dX3_callBack_33 rfl (lv_at hl 3 rfl) ?_
          refine lv_icmp_ne (tgt := 41) hx hb dX3_callBack_34 (by decide) (fun c_7 => ?_) (fun c_7 => ?_)
          · skip
            refine lv_iconst (v := nI 0) hx hb dX3_callBack_41 (by decide) ?_
            refine lv_istore (lv' := [(7, .int (nI 0)), (0, .ref (ad 3)), (1, .int (nI bb)), (2, .int (nI sd)), (3, .int (nI pp)), (4, .long ((cbk S bb sd pp i).2)), (6, .int (nI (i + 1)))]) hx hb dX3_callBack_42 hl (by decide) rfl (fun ls hl => ?_)
            refine lv_iload hx hb dX3_callBack_44 (lv_at hl 0 rfl) ?_
            refine lv_if_eq (tgt := 90) hx hb dX3_callBack_46 (by decide) (fun _ => ?_) (fun c9 => absurd c9 (by decide))
            refine lv_iinc (v := nI ((i + 1) + 1)) (lv' := [(6, .int (nI ((i + 1) + 1))), (7, .int (nI 0)), (0, .ref (ad 3)), (1, .int (nI bb)), (2, .int (nI sd)), (3, .int (nI pp)), (4, .long ((cbk S bb sd pp i).2))]) hx hb dX3_callBack_90 hl (k := 6) rfl (nI_inc _) (by decide) rfl (fun ls hl => ?_)
            refine lv_goto (tgt := 6) hx hb dX3_callBack_93 (by decide) ?_
            have e9 : (cbk S bb sd pp i).2 = (cbk S bb sd pp (i + 1)).2 := by first | rfl | (simp only [cbk, c_1, c_2, c_7, decide_true, decide_false, Bool.not_true, Bool.not_false, Bool.true_and, Bool.and_true, Bool.false_and, Bool.and_false, Bool.or_true, Bool.true_or, Bool.or_false, Bool.false_or, Bool.false_eq_true, Bool.true_eq_false, if_true, if_false, ↓reduceIte]; done) | (simp only [cbk, c_1, c_2, c_7, decide_true, decide_false, Bool.not_true, Bool.not_false, Bool.true_and, Bool.and_true, Bool.false_and, Bool.and_false, Bool.or_true, Bool.true_or, Bool.or_false, Bool.false_or, Bool.false_eq_true, Bool.true_eq_false, if_true, if_false, ↓reduceIte]; rfl)
            rw [e9] at hl
            have e9 : (cbk S bb sd pp i).1 = (cbk S bb sd pp (i + 1)).1 := by first | rfl | (simp only [cbk, c_1, c_2, c_7, decide_true, decide_false, Bool.not_true, Bool.not_false, Bool.true_and, Bool.and_true, Bool.false_and, Bool.and_false, Bool.or_true, Bool.true_or, Bool.or_false, Bool.false_or, Bool.false_eq_true, Bool.true_eq_false, if_true, if_false, ↓reduceIte]; done) | (simp only [cbk, c_1, c_2, c_7, decide_true, decide_false, Bool.not_true, Bool.not_false, Bool.true_and, Bool.and_true, Bool.false_and, Bool.and_false, Bool.or_true, Bool.true_or, Bool.or_false, Bool.false_or, Bool.false_eq_true, Bool.true_eq_false, if_true, if_false, ↓reduceIte]; rfl)
            rw [e9] at hw
            exact ih_6 (i + 1) (by omega) (by omega) _ _ _ hw (lv_sub hl [2, 3, 4, 5, 6, 0] rfl)
          · skip
            refine lv_iconst (v := nI 1) hx hb dX3_callBack_37 (by decide) ?_
            refine lv_goto (tgt := 42) hx hb dX3_callBack_38 (by decide) ?_
            refine lv_istore (lv' := [(7, .int (nI 1)), (0, .ref (ad 3)), (1, .int (nI bb)), (2, .int (nI sd)), (3, .int (nI pp)), (4, .long ((cbk S bb sd pp i).2)), (6, .int (nI (i + 1)))]) hx hb dX3_callBack_42 hl (by decide) rfl (fun ls hl => ?_)
            refine lv_iload hx hb dX3_callBack_44 (lv_at hl 0 rfl) ?_
            refine lv_if_eq (tgt := 90) hx hb dX3_callBack_46 (by decide) (fun c9 => absurd c9 (by decide)) (fun _ => ?_)
            refine lv_aload_n hx hb dX3_callBack_49 rfl (lv_at hl 1 rfl) ?_
            refine lv_iload hx hb dX3_callBack_50 (lv_at hl 6 rfl) ?_
            refine lv_iload_n hx hb dX3_callBack_52 rfl (lv_at hl 2 rfl) ?_
            refine lv_iload_n hx hb dX3_callBack_53 rfl (lv_at hl 3 rfl) ?_
            refine wo_vI (As := [.int (nI (i + 1)), .int (nI bb), .int (nI sd)]) (rest := []) (kX3_isOf l dC dI ca ad ((cbk S bb sd pp i).1) (i + 1) bb sd (by first | assumption | omega)) ⟨hx, hb, hml, hown, hts⟩ (cwV 3 hts (wa_gV wd_321 wd_322 wd_323 wd_5 wd_324) rfl rfl rfl (by decide +kernel) ⟨Nat.le_of_ble_eq_true rfl, Nat.le_of_ble_eq_true rfl⟩) hK hw hA 3 rfl rfl rfl rfl hl.1 rfl (Nat.le_of_ble_eq_true rfl) dX3_callBack_54 ⟨Nat.zero_le _, Nat.zero_le _⟩ (fun r_8 S_8 H locs hp_8 hw => ?_)
            have e9 := hp_8.1.symm
            subst e9
            have e9 := hp_8.2.symm
            subst e9
            refine lv_if_eq (tgt := 90) hx hb dX3_callBack_57 (by decide) (fun c_9 => ?_) (fun c_9 => ?_)
            · skip
              have c_9 : isOf ((cbk S bb sd pp i).1) (i + 1) bb sd = false := nb_0 c_9
              refine lv_iinc (v := nI ((i + 1) + 1)) (lv' := [(6, .int (nI ((i + 1) + 1))), (7, .int (nI 1)), (0, .ref (ad 3)), (1, .int (nI bb)), (2, .int (nI sd)), (3, .int (nI pp)), (4, .long ((cbk S bb sd pp i).2))]) hx hb dX3_callBack_90 hl (k := 6) rfl (nI_inc _) (by decide) rfl (fun ls hl => ?_)
              refine lv_goto (tgt := 6) hx hb dX3_callBack_93 (by decide) ?_
              have e9 : (cbk S bb sd pp i).2 = (cbk S bb sd pp (i + 1)).2 := by first | rfl | (simp only [cbk, c_1, c_2, c_7, c_9, decide_true, decide_false, Bool.not_true, Bool.not_false, Bool.true_and, Bool.and_true, Bool.false_and, Bool.and_false, Bool.or_true, Bool.true_or, Bool.or_false, Bool.false_or, Bool.false_eq_true, Bool.true_eq_false, if_true, if_false, ↓reduceIte]; done) | (simp only [cbk, c_1, c_2, c_7, c_9, decide_true, decide_false, Bool.not_true, Bool.not_false, Bool.true_and, Bool.and_true, Bool.false_and, Bool.and_false, Bool.or_true, Bool.true_or, Bool.or_false, Bool.false_or, Bool.false_eq_true, Bool.true_eq_false, if_true, if_false, ↓reduceIte]; rfl)
              rw [e9] at hl
              have e9 : (cbk S bb sd pp i).1 = (cbk S bb sd pp (i + 1)).1 := by first | rfl | (simp only [cbk, c_1, c_2, c_7, c_9, decide_true, decide_false, Bool.not_true, Bool.not_false, Bool.true_and, Bool.and_true, Bool.false_and, Bool.and_false, Bool.or_true, Bool.true_or, Bool.or_false, Bool.false_or, Bool.false_eq_true, Bool.true_eq_false, if_true, if_false, ↓reduceIte]; done) | (simp only [cbk, c_1, c_2, c_7, c_9, decide_true, decide_false, Bool.not_true, Bool.not_false, Bool.true_and, Bool.and_true, Bool.false_and, Bool.and_false, Bool.or_true, Bool.true_or, Bool.or_false, Bool.false_or, Bool.false_eq_true, Bool.true_eq_false, if_true, if_false, ↓reduceIte]; rfl)
              rw [e9] at hw
              exact ih_6 (i + 1) (by omega) (by omega) _ _ _ hw (lv_sub hl [2, 3, 4, 5, 6, 0] rfl)
            · skip
              have c_9 : isOf ((cbk S bb sd pp i).1) (i + 1) bb sd = true := nb_1 c_9
              refine lv_aload_n hx hb dX3_callBack_60 rfl (lv_at hl 1 rfl) ?_
              refine wo_get hx hb hts inX3 hown hK hw 3 rfl rfl 5 (by decide) (hts _ wd_99) (fun _ h9 => h9) rfl dX3_callBack_61 ?_
              refine lv_iload hx hb dX3_callBack_64 (lv_at hl 6 rfl) ?_
              refine wo_iald hx hb hK hw 30 0 rfl rfl (i + 1) rfl (by first | assumption | omega) (by decide) dX3_callBack_66 ?_
              refine lv_iconst (v := nI 1) hx hb dX3_callBack_67 (by decide) ?_
              refine lv_icmp_eq (tgt := 90) hx hb dX3_callBack_68 (by decide) (fun c_10 => ?_) (fun c_10 => ?_)
              · skip
                refine lv_iinc (v := nI ((i + 1) + 1)) (lv' := [(6, .int (nI ((i + 1) + 1))), (7, .int (nI 1)), (0, .ref (ad 3)), (1, .int (nI bb)), (2, .int (nI sd)), (3, .int (nI pp)), (4, .long ((cbk S bb sd pp i).2))]) hx hb dX3_callBack_90 hl (k := 6) rfl (nI_inc _) (by decide) rfl (fun ls hl => ?_)
                refine lv_goto (tgt := 6) hx hb dX3_callBack_93 (by decide) ?_
                have e9 : (cbk S bb sd pp i).2 = (cbk S bb sd pp (i + 1)).2 := by first | rfl | (simp only [cbk, c_1, c_2, c_7, c_9, c_10, decide_true, decide_false, Bool.not_true, Bool.not_false, Bool.true_and, Bool.and_true, Bool.false_and, Bool.and_false, Bool.or_true, Bool.true_or, Bool.or_false, Bool.false_or, Bool.false_eq_true, Bool.true_eq_false, if_true, if_false, ↓reduceIte]; done) | (simp only [cbk, c_1, c_2, c_7, c_9, c_10, decide_true, decide_false, Bool.not_true, Bool.not_false, Bool.true_and, Bool.and_true, Bool.false_and, Bool.and_false, Bool.or_true, Bool.true_or, Bool.or_false, Bool.false_or, Bool.false_eq_true, Bool.true_eq_false, if_true, if_false, ↓reduceIte]; rfl)
                rw [e9] at hl
                have e9 : (cbk S bb sd pp i).1 = (cbk S bb sd pp (i + 1)).1 := by first | rfl | (simp only [cbk, c_1, c_2, c_7, c_9, c_10, decide_true, decide_false, Bool.not_true, Bool.not_false, Bool.true_and, Bool.and_true, Bool.false_and, Bool.and_false, Bool.or_true, Bool.true_or, Bool.or_false, Bool.false_or, Bool.false_eq_true, Bool.true_eq_false, if_true, if_false, ↓reduceIte]; done) | (simp only [cbk, c_1, c_2, c_7, c_9, c_10, decide_true, decide_false, Bool.not_true, Bool.not_false, Bool.true_and, Bool.and_true, Bool.false_and, Bool.and_false, Bool.or_true, Bool.true_or, Bool.or_false, Bool.false_or, Bool.false_eq_true, Bool.true_eq_false, if_true, if_false, ↓reduceIte]; rfl)
                rw [e9] at hw
                exact ih_6 (i + 1) (by omega) (by omega) _ _ _ hw (lv_sub hl [2, 3, 4, 5, 6, 0] rfl)
              · skip
                refine lv_aload_n hx hb dX3_callBack_71 rfl (lv_at hl 1 rfl) ?_
                refine wo_get hx hb hts inX3 hown hK hw 3 rfl rfl 5 (by decide) (hts _ wd_99) (fun _ h9 => h9) rfl dX3_callBack_72 ?_
                refine lv_iload hx hb dX3_callBack_75 (lv_at hl 6 rfl) ?_
                refine lv_iconst (v := nI 2) hx hb dX3_callBack_77 (by decide) ?_
                refine wo_iast hx hb hK hw 30 0 rfl rfl (i + 1) rfl (by first | assumption | omega) (by decide) (se_30 ca ad ((cbk S bb sd pp i).1) (i + 1) (nI 2)) dX3_callBack_78 (fun H locs hw => ?_)
                refine lv_lload hx hb dX3_callBack_79 (lv_at hl 5 rfl) ?_
                refine lv_aload_n hx hb dX3_callBack_81 rfl (lv_at hl 1 rfl) ?_
                refine lv_iload hx hb dX3_callBack_82 (lv_at hl 6 rfl) ?_
                refine wo_vL (As := [.int (nI (i + 1))]) (rest := [.long ((cbk S bb sd pp i).2)]) (kX3_empty l dC dI ca ad (sI ((cbk S bb sd pp i).1) 30 (i + 1) (nI 2)) (i + 1) (by first | assumption | omega)) ⟨hx, hb, hml, hown, hts⟩ (cwV 1 hts (wa_gV wd_325 wd_274 wd_275 wd_5 wd_276) rfl rfl rfl (by decide +kernel) ⟨Nat.le_of_ble_eq_true rfl, Nat.le_of_ble_eq_true rfl⟩) hK hw hA 3 rfl rfl rfl rfl hl.1 rfl (Nat.le_of_ble_eq_true rfl) dX3_callBack_84 ⟨Nat.zero_le _, Nat.zero_le _⟩ (fun r_11 S_11 H locs hp_11 hw => ?_)
                have e9 := hp_11.1.symm
                subst e9
                have e9 := hp_11.2.symm
                subst e9
                refine lv_ladd hx hb dX3_callBack_87 ?_
                refine lv_lstore (lv' := [(4, .long (((cbk S bb sd pp i).2) + ((sI ((cbk S bb sd pp i).1) 30 (i + 1) (nI 2)).2 33 (i + 1)))), (7, .int (nI 1)), (0, .ref (ad 3)), (1, .int (nI bb)), (2, .int (nI sd)), (3, .int (nI pp)), (6, .int (nI (i + 1)))]) hx hb dX3_callBack_88 hl (by decide) rfl (fun ls hl => ?_)
                refine lv_iinc (v := nI ((i + 1) + 1)) (lv' := [(6, .int (nI ((i + 1) + 1))), (4, .long (((cbk S bb sd pp i).2) + ((sI ((cbk S bb sd pp i).1) 30 (i + 1) (nI 2)).2 33 (i + 1)))), (7, .int (nI 1)), (0, .ref (ad 3)), (1, .int (nI bb)), (2, .int (nI sd)), (3, .int (nI pp))]) hx hb dX3_callBack_90 hl (k := 6) rfl (nI_inc _) (by decide) rfl (fun ls hl => ?_)
                refine lv_goto (tgt := 6) hx hb dX3_callBack_93 (by decide) ?_
                have e9 : ((cbk S bb sd pp i).2) + ((sI ((cbk S bb sd pp i).1) 30 (i + 1) (nI 2)).2 33 (i + 1)) = (cbk S bb sd pp (i + 1)).2 := by first | rfl | (simp only [cbk, c_1, c_2, c_7, c_9, c_10, decide_true, decide_false, Bool.not_true, Bool.not_false, Bool.true_and, Bool.and_true, Bool.false_and, Bool.and_false, Bool.or_true, Bool.true_or, Bool.or_false, Bool.false_or, Bool.false_eq_true, Bool.true_eq_false, if_true, if_false, ↓reduceIte]; done) | (simp only [cbk, c_1, c_2, c_7, c_9, c_10, decide_true, decide_false, Bool.not_true, Bool.not_false, Bool.true_and, Bool.and_true, Bool.false_and, Bool.and_false, Bool.or_true, Bool.true_or, Bool.or_false, Bool.false_or, Bool.false_eq_true, Bool.true_eq_false, if_true, if_false, ↓reduceIte]; rfl)
                rw [e9] at hl
                have e9 : sL (sI ((cbk S bb sd pp i).1) 30 (i + 1) (nI 2)) 33 (i + 1) 0 = (cbk S bb sd pp (i + 1)).1 := by first | rfl | (simp only [cbk, c_1, c_2, c_7, c_9, c_10, decide_true, decide_false, Bool.not_true, Bool.not_false, Bool.true_and, Bool.and_true, Bool.false_and, Bool.and_false, Bool.or_true, Bool.true_or, Bool.or_false, Bool.false_or, Bool.false_eq_true, Bool.true_eq_false, if_true, if_false, ↓reduceIte]; done) | (simp only [cbk, c_1, c_2, c_7, c_9, c_10, decide_true, decide_false, Bool.not_true, Bool.not_false, Bool.true_and, Bool.and_true, Bool.false_and, Bool.and_false, Bool.or_true, Bool.true_or, Bool.or_false, Bool.false_or, Bool.false_eq_true, Bool.true_eq_false, if_true, if_false, ↓reduceIte]; rfl)
                rw [e9] at hw
                exact ih_6 (i + 1) (by omega) (by omega) _ _ _ hw (lv_sub hl [3, 4, 5, 6, 1, 0] rfl)
  have e9 : 0 = (cbk S bb sd pp 0).2 := by first | rfl | (simp only [cbk, decide_true, decide_false, Bool.not_true, Bool.not_false, Bool.true_and, Bool.and_true, Bool.false_and, Bool.and_false, Bool.or_true, Bool.true_or, Bool.or_false, Bool.false_or, Bool.false_eq_true, Bool.true_eq_false, if_true, if_false, ↓reduceIte]; done) | (simp only [cbk, decide_true, decide_false, Bool.not_true, Bool.not_false, Bool.true_and, Bool.and_true, Bool.false_and, Bool.and_false, Bool.or_true, Bool.true_or, Bool.or_false, Bool.false_or, Bool.false_eq_true, Bool.true_eq_false, if_true, if_false, ↓reduceIte]; rfl)
  rw [e9] at hl
  have e9 : nI 1 = nI (0 + 1) := by first | rfl | (simp only [cbk, decide_true, decide_false, Bool.not_true, Bool.not_false, Bool.true_and, Bool.and_true, Bool.false_and, Bool.and_false, Bool.or_true, Bool.true_or, Bool.or_false, Bool.false_or, Bool.false_eq_true, Bool.true_eq_false, if_true, if_false, ↓reduceIte]; done) | (simp only [cbk, decide_true, decide_false, Bool.not_true, Bool.not_false, Bool.true_and, Bool.and_true, Bool.false_and, Bool.and_false, Bool.or_true, Bool.true_or, Bool.or_false, Bool.false_or, Bool.false_eq_true, Bool.true_eq_false, if_true, if_false, ↓reduceIte]; rfl)
  rw [e9] at hl
  have e9 : S = (cbk S bb sd pp 0).1 := by first | rfl | (simp only [cbk, decide_true, decide_false, Bool.not_true, Bool.not_false, Bool.true_and, Bool.and_true, Bool.false_and, Bool.and_false, Bool.or_true, Bool.true_or, Bool.or_false, Bool.false_or, Bool.false_eq_true, Bool.true_eq_false, if_true, if_false, ↓reduceIte]; done) | (simp only [cbk, decide_true, decide_false, Bool.not_true, Bool.not_false, Bool.true_and, Bool.and_true, Bool.false_and, Bool.and_false, Bool.or_true, Bool.true_or, Bool.or_false, Bool.false_or, Bool.false_eq_true, Bool.true_eq_false, if_true, if_false, ↓reduceIte]; rfl)
  rw [e9] at hw
  exact lp_6 (nr + 1) 0 (by omega) (by omega) _ _ _ hw (lv_sub hl [2, 3, 4, 5, 1, 0] rfl)
