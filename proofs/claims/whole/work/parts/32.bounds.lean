theorem dX0_has_0 : decode cX0_has 0 = .ok (.iload_n 1, 1) := by decide +kernel
theorem dX0_has_1 : decode cX0_has 1 = .ok (.ifCond .lt 15, 3) := by decide +kernel
theorem dX0_has_4 : decode cX0_has 4 = .ok (.iload_n 1, 1) := by decide +kernel
theorem dX0_has_5 : decode cX0_has 5 = .ok (.aload_n 0, 1) := by decide +kernel
theorem dX0_has_6 : decode cX0_has 6 = .ok (.getfield 26, 3) := by decide +kernel
theorem dX0_has_9 : decode cX0_has 9 = .ok (.if_icmp .ge 7, 3) := by decide +kernel
theorem dX0_has_12 : decode cX0_has 12 = .ok (.iconst 1, 1) := by decide +kernel
theorem dX0_has_13 : decode cX0_has 13 = .ok (.goto 4, 3) := by decide +kernel
theorem dX0_has_16 : decode cX0_has 16 = .ok (.iconst 0, 1) := by decide +kernel
theorem dX0_has_17 : decode cX0_has 17 = .ok (.ireturn, 1) := by decide +kernel

theorem dX0_open_0 : decode cX0_open 0 = .ok (.aload_n 0, 1) := by decide +kernel
theorem dX0_open_1 : decode cX0_open 1 = .ok (.getfield 9, 3) := by decide +kernel
theorem dX0_open_4 : decode cX0_open 4 = .ok (.aload_n 0, 1) := by decide +kernel
theorem dX0_open_5 : decode cX0_open 5 = .ok (.getfield 26, 3) := by decide +kernel
theorem dX0_open_8 : decode cX0_open 8 = .ok (.lload_n 1, 1) := by decide +kernel
theorem dX0_open_9 : decode cX0_open 9 = .ok (.lastore, 1) := by decide +kernel
theorem dX0_open_10 : decode cX0_open 10 = .ok (.aload_n 0, 1) := by decide +kernel
theorem dX0_open_11 : decode cX0_open 11 = .ok (.getfield 15, 3) := by decide +kernel
theorem dX0_open_14 : decode cX0_open 14 = .ok (.aload_n 0, 1) := by decide +kernel
theorem dX0_open_15 : decode cX0_open 15 = .ok (.getfield 26, 3) := by decide +kernel
theorem dX0_open_18 : decode cX0_open 18 = .ok (.lload_n 3, 1) := by decide +kernel
theorem dX0_open_19 : decode cX0_open 19 = .ok (.lastore, 1) := by decide +kernel
theorem dX0_open_20 : decode cX0_open 20 = .ok (.aload_n 0, 1) := by decide +kernel
theorem dX0_open_21 : decode cX0_open 21 = .ok (.getfield 18, 3) := by decide +kernel
theorem dX0_open_24 : decode cX0_open 24 = .ok (.aload_n 0, 1) := by decide +kernel
theorem dX0_open_25 : decode cX0_open 25 = .ok (.getfield 26, 3) := by decide +kernel
theorem dX0_open_28 : decode cX0_open 28 = .ok (.lload 5, 2) := by decide +kernel
theorem dX0_open_30 : decode cX0_open 30 = .ok (.lastore, 1) := by decide +kernel
theorem dX0_open_31 : decode cX0_open 31 = .ok (.aload_n 0, 1) := by decide +kernel
theorem dX0_open_32 : decode cX0_open 32 = .ok (.dup, 1) := by decide +kernel
theorem dX0_open_33 : decode cX0_open 33 = .ok (.getfield 26, 3) := by decide +kernel
theorem dX0_open_36 : decode cX0_open 36 = .ok (.iconst 1, 1) := by decide +kernel
theorem dX0_open_37 : decode cX0_open 37 = .ok (.iadd, 1) := by decide +kernel
theorem dX0_open_38 : decode cX0_open 38 = .ok (.putfield 26, 3) := by decide +kernel
theorem dX0_open_41 : decode cX0_open 41 = .ok (.aload_n 0, 1) := by decide +kernel
theorem dX0_open_42 : decode cX0_open 42 = .ok (.getfield 26, 3) := by decide +kernel
theorem dX0_open_45 : decode cX0_open 45 = .ok (.iconst 1, 1) := by decide +kernel
theorem dX0_open_46 : decode cX0_open 46 = .ok (.isub, 1) := by decide +kernel
theorem dX0_open_47 : decode cX0_open 47 = .ok (.ireturn, 1) := by decide +kernel

theorem dX0_setShares_0 : decode cX0_setShares 0 = .ok (.iconst 0, 1) := by decide +kernel
theorem dX0_setShares_1 : decode cX0_setShares 1 = .ok (.istore 4, 2) := by decide +kernel
theorem dX0_setShares_3 : decode cX0_setShares 3 = .ok (.iload 4, 2) := by decide +kernel
theorem dX0_setShares_5 : decode cX0_setShares 5 = .ok (.bipush 6, 2) := by decide +kernel
theorem dX0_setShares_7 : decode cX0_setShares 7 = .ok (.if_icmp .ge 26, 3) := by decide +kernel
theorem dX0_setShares_10 : decode cX0_setShares 10 = .ok (.aload_n 0, 1) := by decide +kernel
theorem dX0_setShares_11 : decode cX0_setShares 11 = .ok (.getfield 23, 3) := by decide +kernel
theorem dX0_setShares_14 : decode cX0_setShares 14 = .ok (.iload_n 1, 1) := by decide +kernel
theorem dX0_setShares_15 : decode cX0_setShares 15 = .ok (.iconst 2, 1) := by decide +kernel
theorem dX0_setShares_16 : decode cX0_setShares 16 = .ok (.imul, 1) := by decide +kernel
theorem dX0_setShares_17 : decode cX0_setShares 17 = .ok (.iload_n 2, 1) := by decide +kernel
theorem dX0_setShares_18 : decode cX0_setShares 18 = .ok (.iadd, 1) := by decide +kernel
theorem dX0_setShares_19 : decode cX0_setShares 19 = .ok (.aaload, 1) := by decide +kernel
theorem dX0_setShares_20 : decode cX0_setShares 20 = .ok (.iload 4, 2) := by decide +kernel
theorem dX0_setShares_22 : decode cX0_setShares 22 = .ok (.aload_n 3, 1) := by decide +kernel
theorem dX0_setShares_23 : decode cX0_setShares 23 = .ok (.iload 4, 2) := by decide +kernel
theorem dX0_setShares_25 : decode cX0_setShares 25 = .ok (.laload, 1) := by decide +kernel
theorem dX0_setShares_26 : decode cX0_setShares 26 = .ok (.lastore, 1) := by decide +kernel
theorem dX0_setShares_27 : decode cX0_setShares 27 = .ok (.iinc 4 1, 3) := by decide +kernel
theorem dX0_setShares_30 : decode cX0_setShares 30 = .ok (.goto (-27), 3) := by decide +kernel
theorem dX0_setShares_33 : decode cX0_setShares 33 = .ok (.return_, 1) := by decide +kernel

theorem dX0_shareOf_0 : decode cX0_shareOf 0 = .ok (.aload_n 0, 1) := by decide +kernel
theorem dX0_shareOf_1 : decode cX0_shareOf 1 = .ok (.getfield 23, 3) := by decide +kernel
theorem dX0_shareOf_4 : decode cX0_shareOf 4 = .ok (.iload_n 1, 1) := by decide +kernel
theorem dX0_shareOf_5 : decode cX0_shareOf 5 = .ok (.iconst 2, 1) := by decide +kernel
theorem dX0_shareOf_6 : decode cX0_shareOf 6 = .ok (.imul, 1) := by decide +kernel
theorem dX0_shareOf_7 : decode cX0_shareOf 7 = .ok (.iload_n 2, 1) := by decide +kernel
theorem dX0_shareOf_8 : decode cX0_shareOf 8 = .ok (.iadd, 1) := by decide +kernel
theorem dX0_shareOf_9 : decode cX0_shareOf 9 = .ok (.aaload, 1) := by decide +kernel
theorem dX0_shareOf_10 : decode cX0_shareOf 10 = .ok (.iload_n 3, 1) := by decide +kernel
theorem dX0_shareOf_11 : decode cX0_shareOf 11 = .ok (.laload, 1) := by decide +kernel
theorem dX0_shareOf_12 : decode cX0_shareOf 12 = .ok (.lreturn, 1) := by decide +kernel

theorem dX0_addToShare_0 : decode cX0_addToShare 0 = .ok (.aload_n 0, 1) := by decide +kernel
theorem dX0_addToShare_1 : decode cX0_addToShare 1 = .ok (.getfield 23, 3) := by decide +kernel
theorem dX0_addToShare_4 : decode cX0_addToShare 4 = .ok (.iload_n 1, 1) := by decide +kernel
theorem dX0_addToShare_5 : decode cX0_addToShare 5 = .ok (.iconst 2, 1) := by decide +kernel
theorem dX0_addToShare_6 : decode cX0_addToShare 6 = .ok (.imul, 1) := by decide +kernel
theorem dX0_addToShare_7 : decode cX0_addToShare 7 = .ok (.iload_n 2, 1) := by decide +kernel
theorem dX0_addToShare_8 : decode cX0_addToShare 8 = .ok (.iadd, 1) := by decide +kernel
theorem dX0_addToShare_9 : decode cX0_addToShare 9 = .ok (.aaload, 1) := by decide +kernel
theorem dX0_addToShare_10 : decode cX0_addToShare 10 = .ok (.iload_n 3, 1) := by decide +kernel
theorem dX0_addToShare_11 : decode cX0_addToShare 11 = .ok (.dup2, 1) := by decide +kernel
theorem dX0_addToShare_12 : decode cX0_addToShare 12 = .ok (.laload, 1) := by decide +kernel
theorem dX0_addToShare_13 : decode cX0_addToShare 13 = .ok (.lload 4, 2) := by decide +kernel
theorem dX0_addToShare_15 : decode cX0_addToShare 15 = .ok (.ladd, 1) := by decide +kernel
theorem dX0_addToShare_16 : decode cX0_addToShare 16 = .ok (.lastore, 1) := by decide +kernel
theorem dX0_addToShare_17 : decode cX0_addToShare 17 = .ok (.return_, 1) := by decide +kernel

theorem dX0_emptyShare_0 : decode cX0_emptyShare 0 = .ok (.aload_n 0, 1) := by decide +kernel
theorem dX0_emptyShare_1 : decode cX0_emptyShare 1 = .ok (.iload_n 1, 1) := by decide +kernel
theorem dX0_emptyShare_2 : decode cX0_emptyShare 2 = .ok (.iload_n 2, 1) := by decide +kernel
theorem dX0_emptyShare_3 : decode cX0_emptyShare 3 = .ok (.iload_n 3, 1) := by decide +kernel
theorem dX0_emptyShare_4 : decode cX0_emptyShare 4 = .ok (.invokevirtual 30, 3) := by decide +kernel
theorem dX0_emptyShare_7 : decode cX0_emptyShare 7 = .ok (.lstore 4, 2) := by decide +kernel
theorem dX0_emptyShare_9 : decode cX0_emptyShare 9 = .ok (.aload_n 0, 1) := by decide +kernel
theorem dX0_emptyShare_10 : decode cX0_emptyShare 10 = .ok (.iload_n 1, 1) := by decide +kernel
theorem dX0_emptyShare_11 : decode cX0_emptyShare 11 = .ok (.iload_n 2, 1) := by decide +kernel
theorem dX0_emptyShare_12 : decode cX0_emptyShare 12 = .ok (.iload_n 3, 1) := by decide +kernel
theorem dX0_emptyShare_13 : decode cX0_emptyShare 13 = .ok (.lload 4, 2) := by decide +kernel
theorem dX0_emptyShare_15 : decode cX0_emptyShare 15 = .ok (.lneg, 1) := by decide +kernel
theorem dX0_emptyShare_16 : decode cX0_emptyShare 16 = .ok (.invokevirtual 34, 3) := by decide +kernel
theorem dX0_emptyShare_19 : decode cX0_emptyShare 19 = .ok (.lload 4, 2) := by decide +kernel
theorem dX0_emptyShare_21 : decode cX0_emptyShare 21 = .ok (.lreturn, 1) := by decide +kernel

theorem dX0_move_0 : decode cX0_move 0 = .ok (.lload_n 3, 1) := by decide +kernel
theorem dX0_move_1 : decode cX0_move 1 = .ok (.lconst 0, 1) := by decide +kernel
theorem dX0_move_2 : decode cX0_move 2 = .ok (.lcmp, 1) := by decide +kernel
theorem dX0_move_3 : decode cX0_move 3 = .ok (.ifCond .le 13, 3) := by decide +kernel
theorem dX0_move_6 : decode cX0_move 6 = .ok (.aload_n 0, 1) := by decide +kernel
theorem dX0_move_7 : decode cX0_move 7 = .ok (.iload_n 1, 1) := by decide +kernel
theorem dX0_move_8 : decode cX0_move 8 = .ok (.iconst 0, 1) := by decide +kernel
theorem dX0_move_9 : decode cX0_move 9 = .ok (.iload_n 2, 1) := by decide +kernel
theorem dX0_move_10 : decode cX0_move 10 = .ok (.invokevirtual 30, 3) := by decide +kernel
theorem dX0_move_13 : decode cX0_move 13 = .ok (.goto 10, 3) := by decide +kernel
theorem dX0_move_16 : decode cX0_move 16 = .ok (.aload_n 0, 1) := by decide +kernel
theorem dX0_move_17 : decode cX0_move 17 = .ok (.iload_n 1, 1) := by decide +kernel
theorem dX0_move_18 : decode cX0_move 18 = .ok (.iconst 1, 1) := by decide +kernel
theorem dX0_move_19 : decode cX0_move 19 = .ok (.iload_n 2, 1) := by decide +kernel
theorem dX0_move_20 : decode cX0_move 20 = .ok (.invokevirtual 30, 3) := by decide +kernel
theorem dX0_move_23 : decode cX0_move 23 = .ok (.lstore 5, 2) := by decide +kernel
theorem dX0_move_25 : decode cX0_move 25 = .ok (.lload 5, 2) := by decide +kernel
theorem dX0_move_27 : decode cX0_move 27 = .ok (.lload_n 3, 1) := by decide +kernel
theorem dX0_move_28 : decode cX0_move 28 = .ok (.invokestatic 38, 3) := by decide +kernel
theorem dX0_move_31 : decode cX0_move 31 = .ok (.lcmp, 1) := by decide +kernel
theorem dX0_move_32 : decode cX0_move 32 = .ok (.ifCond .ge 5, 3) := by decide +kernel
theorem dX0_move_35 : decode cX0_move 35 = .ok (.iconst 0, 1) := by decide +kernel
theorem dX0_move_36 : decode cX0_move 36 = .ok (.ireturn, 1) := by decide +kernel
theorem dX0_move_37 : decode cX0_move 37 = .ok (.aload_n 0, 1) := by decide +kernel
theorem dX0_move_38 : decode cX0_move 38 = .ok (.iload_n 1, 1) := by decide +kernel
theorem dX0_move_39 : decode cX0_move 39 = .ok (.iconst 0, 1) := by decide +kernel
theorem dX0_move_40 : decode cX0_move 40 = .ok (.iload_n 2, 1) := by decide +kernel
theorem dX0_move_41 : decode cX0_move 41 = .ok (.lload_n 3, 1) := by decide +kernel
theorem dX0_move_42 : decode cX0_move 42 = .ok (.lneg, 1) := by decide +kernel
theorem dX0_move_43 : decode cX0_move 43 = .ok (.invokevirtual 34, 3) := by decide +kernel
theorem dX0_move_46 : decode cX0_move 46 = .ok (.aload_n 0, 1) := by decide +kernel
theorem dX0_move_47 : decode cX0_move 47 = .ok (.iload_n 1, 1) := by decide +kernel
theorem dX0_move_48 : decode cX0_move 48 = .ok (.iconst 1, 1) := by decide +kernel
theorem dX0_move_49 : decode cX0_move 49 = .ok (.iload_n 2, 1) := by decide +kernel
theorem dX0_move_50 : decode cX0_move 50 = .ok (.lload_n 3, 1) := by decide +kernel
theorem dX0_move_51 : decode cX0_move 51 = .ok (.invokevirtual 34, 3) := by decide +kernel
theorem dX0_move_54 : decode cX0_move 54 = .ok (.aload_n 0, 1) := by decide +kernel
theorem dX0_move_55 : decode cX0_move 55 = .ok (.getfield 15, 3) := by decide +kernel
theorem dX0_move_58 : decode cX0_move 58 = .ok (.iload_n 1, 1) := by decide +kernel
theorem dX0_move_59 : decode cX0_move 59 = .ok (.dup2, 1) := by decide +kernel
theorem dX0_move_60 : decode cX0_move 60 = .ok (.laload, 1) := by decide +kernel
theorem dX0_move_61 : decode cX0_move 61 = .ok (.lload_n 3, 1) := by decide +kernel
theorem dX0_move_62 : decode cX0_move 62 = .ok (.lsub, 1) := by decide +kernel
theorem dX0_move_63 : decode cX0_move 63 = .ok (.lastore, 1) := by decide +kernel
theorem dX0_move_64 : decode cX0_move 64 = .ok (.iconst 1, 1) := by decide +kernel
theorem dX0_move_65 : decode cX0_move 65 = .ok (.ireturn, 1) := by decide +kernel

set_option maxHeartbeats 4000000 in
set_option maxRecDepth 100000 in
theorem kX0_has (l : Launch) (dC : Nat → ClassId) (dI : Nat → Nat → Nat) (ca : Nat → ClassId) (ad : Nat → Nat) (S : sSt) (bb : Int32) : ct_I l yX0_has (Cond.code yX0_has cX0_has 2 (some .boolean) :: wa_T) ({ frames := 0, cells := 0, slots := 0, locals := 0 } : Room) (dC, dI) vwCl (tyl ca) (wc ca ad) S [.ref (ad 2), .int bb] (fun r S2 => r = bI (hbd S bb) ∧ S2 = S) := by
  refine ct_ofI (by decide) (Nat.le_of_ble_eq_true rfl) ?_
  intro p e s m below meth c A ls hx hb hr hml hts hown hlocks hK hA hw hl
  have hl : lv_has ls 2 [(0, .ref (ad 2)), (1, .int bb)] := hl
  refine lv_iload_n hx hb dX0_has_0 rfl (lv_at hl 1 rfl) ?_
  refine lv_if_lt (tgt := 16) hx hb dX0_has_1 (by decide) (fun c_1 => ?_) (fun c_1 => ?_)
  · skip
    refine lv_iconst (v := nI 0) hx hb dX0_has_16 (by decide) ?_
    exact ct_zret (S := S) (v := nI 0) hx hb hr hlocks hK (by first | decide | exact nb_z _) hw (⟨by simp only [bI, hbd, c_1, decide_true, decide_false, Bool.not_true, Bool.not_false, Bool.true_and, Bool.and_true, Bool.false_and, Bool.and_false, Bool.or_true, Bool.true_or, Bool.or_false, Bool.false_or, Bool.false_eq_true, Bool.true_eq_false, if_true, if_false, ↓reduceIte], rfl⟩) dX0_has_17
  · skip
    refine lv_iload_n hx hb dX0_has_4 rfl (lv_at hl 1 rfl) ?_
    refine lv_aload_n hx hb dX0_has_5 rfl (lv_at hl 0 rfl) ?_
    refine wo_get hx hb hts inX0 hown hK hw 2 rfl rfl 0 (by decide) (hts _ wd_63) (fun _ h9 => h9) rfl dX0_has_6 ?_
    refine lv_icmp_ge (tgt := 16) hx hb dX0_has_9 (by decide) (fun c_2 => ?_) (fun c_2 => ?_)
    · skip
      refine lv_iconst (v := nI 0) hx hb dX0_has_16 (by decide) ?_
      exact ct_zret (S := S) (v := nI 0) hx hb hr hlocks hK (by first | decide | exact nb_z _) hw (⟨by simp only [bI, hbd, c_1, c_2, decide_true, decide_false, Bool.not_true, Bool.not_false, Bool.true_and, Bool.and_true, Bool.false_and, Bool.and_false, Bool.or_true, Bool.true_or, Bool.or_false, Bool.false_or, Bool.false_eq_true, Bool.true_eq_false, if_true, if_false, ↓reduceIte], rfl⟩) dX0_has_17
    · skip
      refine lv_iconst (v := nI 1) hx hb dX0_has_12 (by decide) ?_
      refine lv_goto (tgt := 17) hx hb dX0_has_13 (by decide) ?_
      exact ct_zret (S := S) (v := nI 1) hx hb hr hlocks hK (by first | decide | exact nb_z _) hw (⟨by simp only [bI, hbd, c_1, c_2, decide_true, decide_false, Bool.not_true, Bool.not_false, Bool.true_and, Bool.and_true, Bool.false_and, Bool.and_false, Bool.or_true, Bool.true_or, Bool.or_false, Bool.false_or, Bool.false_eq_true, Bool.true_eq_false, if_true, if_false, ↓reduceIte], rfl⟩) dX0_has_17

set_option maxHeartbeats 4000000 in
set_option maxRecDepth 100000 in
theorem kX0_open (l : Launch) (dC : Nat → ClassId) (dI : Nat → Nat → Nat) (ca : Nat → ClassId) (ad : Nat → Nat) (S : sSt) (fl : Int64) (va : Int64) (ce : Int64) (nb : Nat) (hb6 : nb < 6) (hcnt : S.1 2 0 = nI nb) : ct_I l yX0_open (Cond.code yX0_open cX0_open 7 (some .int) :: wa_T) ({ frames := 0, cells := 0, slots := 0, locals := 0 } : Room) (dC, dI) vwCl (tyl ca) (wc ca ad) S [.ref (ad 2), .long fl, .long va, .long ce] (fun r S2 => r = nI (nb) ∧ S2 = bopen S nb fl va ce) := by
  refine ct_ofI (by decide) (Nat.le_of_ble_eq_true rfl) ?_
  intro p e s m below meth c A ls hx hb hr hml hts hown hlocks hK hA hw hl
  have hl : lv_has ls 7 [(0, .ref (ad 2)), (1, .long fl), (3, .long va), (5, .long ce)] := hl
  refine lv_aload_n hx hb dX0_open_0 rfl (lv_at hl 0 rfl) ?_
  refine wo_get hx hb hts inX0 hown hK hw 2 rfl rfl 1 (by decide) (hts _ wd_65) (fun _ h9 => h9) rfl dX0_open_1 ?_
  refine lv_aload_n hx hb dX0_open_4 rfl (lv_at hl 0 rfl) ?_
  refine wo_get hx hb hts inX0 hown hK hw 2 rfl rfl 0 (by decide) (hts _ wd_63) (fun _ h9 => h9) rfl dX0_open_5 ?_
  refine tp_i (y := nI nb) (hcnt) ?_
  refine lv_lload_n hx hb dX0_open_8 rfl (lv_at hl 1 rfl) ?_
  refine wo_last hx hb hK hw 10 1 rfl rfl nb rfl (by first | assumption | omega) (by decide) (se_10 ca ad S nb fl) dX0_open_9 (fun H locs hw => ?_)
  refine lv_aload_n hx hb dX0_open_10 rfl (lv_at hl 0 rfl) ?_
  refine wo_get hx hb hts inX0 hown hK hw 2 rfl rfl 2 (by decide) (hts _ wd_67) (fun _ h9 => h9) rfl dX0_open_11 ?_
  refine lv_aload_n hx hb dX0_open_14 rfl (lv_at hl 0 rfl) ?_
  refine wo_get hx hb hts inX0 hown hK hw 2 rfl rfl 0 (by decide) (hts _ wd_63) (fun _ h9 => h9) rfl dX0_open_15 ?_
  refine tp_i (y := nI nb) (hcnt) ?_
  refine lv_lload_n hx hb dX0_open_18 rfl (lv_at hl 2 rfl) ?_
  refine wo_last hx hb hK hw 11 1 rfl rfl nb rfl (by first | assumption | omega) (by decide) (se_11 ca ad (sL S 10 nb fl) nb va) dX0_open_19 (fun H locs hw => ?_)
  refine lv_aload_n hx hb dX0_open_20 rfl (lv_at hl 0 rfl) ?_
  refine wo_get hx hb hts inX0 hown hK hw 2 rfl rfl 3 (by decide) (hts _ wd_69) (fun _ h9 => h9) rfl dX0_open_21 ?_
  refine lv_aload_n hx hb dX0_open_24 rfl (lv_at hl 0 rfl) ?_
  refine wo_get hx hb hts inX0 hown hK hw 2 rfl rfl 0 (by decide) (hts _ wd_63) (fun _ h9 => h9) rfl dX0_open_25 ?_
  refine tp_i (y := nI nb) (hcnt) ?_
  refine lv_lload hx hb dX0_open_28 (lv_at hl 3 rfl) ?_
  refine wo_last hx hb hK hw 12 1 rfl rfl nb rfl (by first | assumption | omega) (by decide) (se_12 ca ad (sL (sL S 10 nb fl) 11 nb va) nb ce) dX0_open_30 (fun H locs hw => ?_)
  refine lv_aload_n hx hb dX0_open_31 rfl (lv_at hl 0 rfl) ?_
  refine lv_dup hx hb dX0_open_32 rfl ?_
  refine wo_get hx hb hts inX0 hown hK hw 2 rfl rfl 0 (by decide) (hts _ wd_63) (fun _ h9 => h9) rfl dX0_open_33 ?_
  refine tp_i (y := nI nb) (hcnt) ?_
  refine lv_iconst (v := nI 1) hx hb dX0_open_36 (by decide) ?_
  refine lv_iadd hx hb dX0_open_37 ?_
  refine tp_i (nI_add nb 1) ?_
  refine wo_put (ty := .int) (v := .int (nI (nb + 1))) hx hb hts inX0 tyX0 tyX0_ok nmX0 hown hK hw 2 rfl rfl 0 (by decide) (hts _ wd_63) (fun _ h9 => h9) rfl (by decide +kernel) rfl rfl (Nat.le_of_ble_eq_true rfl) (sf_2_0 ca ad (sL (sL (sL S 10 nb fl) 11 nb va) 12 nb ce) (nI (nb + 1))) dX0_open_38 (fun H locs hw => ?_)
  refine lv_aload_n hx hb dX0_open_41 rfl (lv_at hl 0 rfl) ?_
  refine wo_get hx hb hts inX0 hown hK hw 2 rfl rfl 0 (by decide) (hts _ wd_63) (fun _ h9 => h9) rfl dX0_open_42 ?_
  refine tp_i (y := nI (nb + 1)) (rfl) ?_
  refine lv_iconst (v := nI 1) hx hb dX0_open_45 (by decide) ?_
  refine lv_isub hx hb dX0_open_46 ?_
  refine tp_i (pk_sub (a := nb + 1) (b := 1) (by omega)) ?_
  exact ct_iret (S := sI (sL (sL (sL S 10 nb fl) 11 nb va) 12 nb ce) 2 0 (nI (nb + 1))) (v := nI ((nb + 1) - 1)) hx hb hr hlocks hK hw (⟨rfl, rfl⟩) dX0_open_47

set_option maxHeartbeats 4000000 in
set_option maxRecDepth 100000 in
theorem kX0_setShares (l : Launch) (dC : Nat → ClassId) (dI : Nat → Nat → Nat) (ca : Nat → ClassId) (ad : Nat → Nat) (S : sSt) (bb : Nat) (sd : Nat) (hb6 : bb < 6) (hs2 : sd < 2) : ct_V l yX0_setShares (Cond.code yX0_setShares cX0_setShares 5 none :: wa_T) ({ frames := 0, cells := 0, slots := 0, locals := 0 } : Room) (dC, dI) vwCl (tyl ca) (wc ca ad) S [.ref (ad 2), .int (nI bb), .int (nI sd), .ref (ad 50)] (fun S2 => S2 = setSh S (bb * 2 + sd) 6) := by
  refine ct_ofV (by decide) (Nat.le_of_ble_eq_true rfl) ?_
  intro p e s m below meth c A ls hx hb hr hml hts hown hlocks hK hA hw hl
  have hl : lv_has ls 5 [(0, .ref (ad 2)), (1, .int (nI bb)), (2, .int (nI sd)), (3, .ref (ad 50))] := hl
  refine lv_iconst (v := nI 0) hx hb dX0_setShares_0 (by decide) ?_
  refine lv_istore (lv' := [(4, .int (nI 0)), (0, .ref (ad 2)), (1, .int (nI bb)), (2, .int (nI sd)), (3, .ref (ad 50))]) hx hb dX0_setShares_1 hl (by decide) rfl (fun ls hl => ?_)
  have lp_3 : ∀ (n : Nat) (i : Nat), i ≤ 6 → 7 ≤ i + n → ∀ (H : Heap) (locs : List Loc) (ls : Array Slot), wo_w (dC, dI) vwCl A s.heap (wc ca ad (setSh S (bb * 2 + sd) i)) H locs → lv_has ls 5 [(0, .ref (ad 2)), (1, .int (nI bb)), (2, .int (nI sd)), (3, .ref (ad 50)), (4, .int (nI i))] → W p l e ({ frames := 0, cells := 0, slots := 0, locals := 0 } : Room) s m ([.ref (ad 2), .int (nI bb), .int (nI sd), .ref (ad 50)] : List Value).toArray below meth c H locs 0 0 (MQ below (va_Qv (fun S2 => S2 = setSh S (bb * 2 + sd) 6) (ct_B (dC, dI) vwCl (tyl ca) (wc ca ad) A) A) ([.ref (ad 2), .int (nI bb), .int (nI sd), .ref (ad 50)] : List Value).toArray s 0 0 A) (F0 m 3 ls []) := by
    intro n
    induction n with
    | zero =>
      intro i hi hn
      exfalso
      omega
    | succ n ih_3 =>
      intro i hi hn H locs ls hw hl
      refine lv_iload hx hb dX0_setShares_3 (lv_at hl 4 rfl) ?_
      refine lv_bipush (v := nI 6) hx hb dX0_setShares_5 (by decide) ?_
      refine lv_icmp_ge (tgt := 33) hx hb dX0_setShares_7 (by decide) (fun c_1 => ?_) (fun c_1 => ?_)
      · skip
        have c_1 : 6 ≤ i := (nI_leI (a := 6) (b := i) (by omega) (by omega)).mp c_1
        obtain rfl : 6 = i := by omega
        exact ct_vret (S := setSh S (bb * 2 + sd) 6) hx hb hr hlocks hK hw (rfl) dX0_setShares_33
      · skip
        have c_1 : ¬ (6 ≤ i) := fun h9 => c_1 ((nI_leI (a := 6) (b := i) (by omega) (by omega)).mpr h9)
        refine lv_aload_n hx hb dX0_setShares_10 rfl (lv_at hl 0 rfl) ?_
        refine wo_get hx hb hts inX0 hown hK hw 2 rfl rfl 4 (by decide) (hts _ wd_71) (fun _ h9 => h9) rfl dX0_setShares_11 ?_
        refine lv_iload_n hx hb dX0_setShares_14 rfl (lv_at hl 1 rfl) ?_
        refine lv_iconst (v := nI 2) hx hb dX0_setShares_15 (by decide) ?_
        refine lv_imul hx hb dX0_setShares_16 ?_
        refine tp_i (pk_mul bb 2) ?_
        refine lv_iload_n hx hb dX0_setShares_17 rfl (lv_at hl 2 rfl) ?_
        refine lv_iadd hx hb dX0_setShares_18 ?_
        refine tp_i (nI_add (bb * 2) sd) ?_
        refine wo_aald hx hb hK hw 13 3 rfl rfl ((bb * 2) + sd) rfl (by first | assumption | omega) (by decide) (if_pos (by first | assumption | omega)) dX0_setShares_19 ?_
        refine lv_iload hx hb dX0_setShares_20 (lv_at hl 4 rfl) ?_
        refine lv_aload_n hx hb dX0_setShares_22 rfl (lv_at hl 3 rfl) ?_
        refine lv_iload hx hb dX0_setShares_23 (lv_at hl 4 rfl) ?_
        refine wo_lald hx hb hK hw 50 1 rfl rfl i rfl (by first | assumption | omega) (by decide) dX0_setShares_25 ?_
        refine wo_last hx hb hK hw (14 + ((bb * 2) + sd)) 1 (rw_13 ca ad _ ((bb * 2) + sd) (by first | assumption | omega)) rfl i rfl (by first | assumption | omega) (by decide) (se_13 ca ad (setSh S (bb * 2 + sd) i) ((bb * 2) + sd) (by first | assumption | omega) i ((setSh S (bb * 2 + sd) i).2 50 i)) dX0_setShares_26 (fun H locs hw => ?_)
        refine lv_iinc (v := nI (i + 1)) (lv' := [(4, .int (nI (i + 1))), (0, .ref (ad 2)), (1, .int (nI bb)), (2, .int (nI sd)), (3, .ref (ad 50))]) hx hb dX0_setShares_27 hl (k := 4) rfl (nI_inc _) (by decide) rfl (fun ls hl => ?_)
        refine lv_goto (tgt := 3) hx hb dX0_setShares_30 (by decide) ?_
        have e9 : sL (setSh S (bb * 2 + sd) i) (14 + ((bb * 2) + sd)) i ((setSh S (bb * 2 + sd) i).2 50 i) = setSh S (bb * 2 + sd) (i + 1) := rfl
        rw [e9] at hw
        exact ih_3 (i + 1) (by omega) (by omega) _ _ _ hw (lv_sub hl [1, 2, 3, 4, 0] rfl)
  have e9 : S = setSh S (bb * 2 + sd) 0 := rfl
  rw [e9] at hw
  exact lp_3 7 0 (by omega) (by omega) _ _ _ hw (lv_sub hl [1, 2, 3, 4, 0] rfl)

set_option maxHeartbeats 4000000 in
set_option maxRecDepth 100000 in
theorem kX0_shareOf (l : Launch) (dC : Nat → ClassId) (dI : Nat → Nat → Nat) (ca : Nat → ClassId) (ad : Nat → Nat) (S : sSt) (bb : Nat) (sd : Nat) (pp : Nat) (hb6 : bb < 6) (hs2 : sd < 2) (hp6 : pp < 6) : ct_L l yX0_shareOf (Cond.code yX0_shareOf cX0_shareOf 4 (some .long) :: wa_T) ({ frames := 0, cells := 0, slots := 0, locals := 0 } : Room) (dC, dI) vwCl (tyl ca) (wc ca ad) S [.ref (ad 2), .int (nI bb), .int (nI sd), .int (nI pp)] (fun r S2 => r = S.2 (14 + (bb * 2 + sd)) pp ∧ S2 = S) := by
  refine ct_ofL (by decide) (Nat.le_of_ble_eq_true rfl) ?_
  intro p e s m below meth c A ls hx hb hr hml hts hown hlocks hK hA hw hl
  have hl : lv_has ls 4 [(0, .ref (ad 2)), (1, .int (nI bb)), (2, .int (nI sd)), (3, .int (nI pp))] := hl
  refine lv_aload_n hx hb dX0_shareOf_0 rfl (lv_at hl 0 rfl) ?_
  refine wo_get hx hb hts inX0 hown hK hw 2 rfl rfl 4 (by decide) (hts _ wd_71) (fun _ h9 => h9) rfl dX0_shareOf_1 ?_
  refine lv_iload_n hx hb dX0_shareOf_4 rfl (lv_at hl 1 rfl) ?_
  refine lv_iconst (v := nI 2) hx hb dX0_shareOf_5 (by decide) ?_
  refine lv_imul hx hb dX0_shareOf_6 ?_
  refine tp_i (pk_mul bb 2) ?_
  refine lv_iload_n hx hb dX0_shareOf_7 rfl (lv_at hl 2 rfl) ?_
  refine lv_iadd hx hb dX0_shareOf_8 ?_
  refine tp_i (nI_add (bb * 2) sd) ?_
  refine wo_aald hx hb hK hw 13 3 rfl rfl ((bb * 2) + sd) rfl (by first | assumption | omega) (by decide) (if_pos (by first | assumption | omega)) dX0_shareOf_9 ?_
  refine lv_iload_n hx hb dX0_shareOf_10 rfl (lv_at hl 3 rfl) ?_
  refine wo_lald hx hb hK hw (14 + ((bb * 2) + sd)) 1 (rw_13 ca ad _ ((bb * 2) + sd) (by first | assumption | omega)) rfl pp rfl (by first | assumption | omega) (by decide) dX0_shareOf_11 ?_
  exact ct_lret (S := S) (v := S.2 (14 + ((bb * 2) + sd)) pp) hx hb hr hlocks hK hw (⟨rfl, rfl⟩) dX0_shareOf_12

set_option maxHeartbeats 4000000 in
set_option maxRecDepth 100000 in
theorem kX0_addToShare (l : Launch) (dC : Nat → ClassId) (dI : Nat → Nat → Nat) (ca : Nat → ClassId) (ad : Nat → Nat) (S : sSt) (bb : Nat) (sd : Nat) (pp : Nat) (vv : Int64) (hb6 : bb < 6) (hs2 : sd < 2) (hp6 : pp < 6) : ct_V l yX0_addToShare (Cond.code yX0_addToShare cX0_addToShare 6 none :: wa_T) ({ frames := 0, cells := 0, slots := 0, locals := 0 } : Room) (dC, dI) vwCl (tyl ca) (wc ca ad) S [.ref (ad 2), .int (nI bb), .int (nI sd), .int (nI pp), .long vv] (fun S2 => S2 = addSh S (bb * 2 + sd) pp vv) := by
  refine ct_ofV (by decide) (Nat.le_of_ble_eq_true rfl) ?_
  intro p e s m below meth c A ls hx hb hr hml hts hown hlocks hK hA hw hl
  have hl : lv_has ls 6 [(0, .ref (ad 2)), (1, .int (nI bb)), (2, .int (nI sd)), (3, .int (nI pp)), (4, .long vv)] := hl
  refine lv_aload_n hx hb dX0_addToShare_0 rfl (lv_at hl 0 rfl) ?_
  refine wo_get hx hb hts inX0 hown hK hw 2 rfl rfl 4 (by decide) (hts _ wd_71) (fun _ h9 => h9) rfl dX0_addToShare_1 ?_
  refine lv_iload_n hx hb dX0_addToShare_4 rfl (lv_at hl 1 rfl) ?_
  refine lv_iconst (v := nI 2) hx hb dX0_addToShare_5 (by decide) ?_
  refine lv_imul hx hb dX0_addToShare_6 ?_
  refine tp_i (pk_mul bb 2) ?_
  refine lv_iload_n hx hb dX0_addToShare_7 rfl (lv_at hl 2 rfl) ?_
  refine lv_iadd hx hb dX0_addToShare_8 ?_
  refine tp_i (nI_add (bb * 2) sd) ?_
  refine wo_aald hx hb hK hw 13 3 rfl rfl ((bb * 2) + sd) rfl (by first | assumption | omega) (by decide) (if_pos (by first | assumption | omega)) dX0_addToShare_9 ?_
  refine lv_iload_n hx hb dX0_addToShare_10 rfl (lv_at hl 3 rfl) ?_
  refine lv_dup2_11 hx hb dX0_addToShare_11 rfl rfl ?_
  refine wo_lald hx hb hK hw (14 + ((bb * 2) + sd)) 1 (rw_13 ca ad _ ((bb * 2) + sd) (by first | assumption | omega)) rfl pp rfl (by first | assumption | omega) (by decide) dX0_addToShare_12 ?_
  refine lv_lload hx hb dX0_addToShare_13 (lv_at hl 4 rfl) ?_
  refine lv_ladd hx hb dX0_addToShare_15 ?_
  refine wo_last hx hb hK hw (14 + ((bb * 2) + sd)) 1 (rw_13 ca ad _ ((bb * 2) + sd) (by first | assumption | omega)) rfl pp rfl (by first | assumption | omega) (by decide) (se_13 ca ad S ((bb * 2) + sd) (by first | assumption | omega) pp ((S.2 (14 + ((bb * 2) + sd)) pp) + vv)) dX0_addToShare_16 (fun H locs hw => ?_)
  exact ct_vret (S := sL S (14 + ((bb * 2) + sd)) pp ((S.2 (14 + ((bb * 2) + sd)) pp) + vv)) hx hb hr hlocks hK hw (rfl) dX0_addToShare_17

set_option maxHeartbeats 4000000 in
set_option maxRecDepth 100000 in
theorem kX0_emptyShare (l : Launch) (dC : Nat → ClassId) (dI : Nat → Nat → Nat) (ca : Nat → ClassId) (ad : Nat → Nat) (S : sSt) (bb : Nat) (sd : Nat) (pp : Nat) (hb6 : bb < 6) (hs2 : sd < 2) (hp6 : pp < 6) : ct_L l yX0_emptyShare (Cond.code yX0_emptyShare cX0_emptyShare 6 (some .long) :: wa_T) ({ frames := 1, cells := 0, slots := 0, locals := 25 } : Room) (dC, dI) vwCl (tyl ca) (wc ca ad) S [.ref (ad 2), .int (nI bb), .int (nI sd), .int (nI pp)] (fun r S2 => r = S.2 (14 + (bb * 2 + sd)) pp ∧ S2 = addSh S (bb * 2 + sd) pp (-S.2 (14 + (bb * 2 + sd)) pp)) := by
  refine ct_ofL (by decide) (Nat.le_of_ble_eq_true rfl) ?_
  intro p e s m below meth c A ls hx hb hr hml hts hown hlocks hK hA hw hl
  have hl : lv_has ls 6 [(0, .ref (ad 2)), (1, .int (nI bb)), (2, .int (nI sd)), (3, .int (nI pp))] := hl
  refine lv_aload_n hx hb dX0_emptyShare_0 rfl (lv_at hl 0 rfl) ?_
  refine lv_iload_n hx hb dX0_emptyShare_1 rfl (lv_at hl 1 rfl) ?_
  refine lv_iload_n hx hb dX0_emptyShare_2 rfl (lv_at hl 2 rfl) ?_
  refine lv_iload_n hx hb dX0_emptyShare_3 rfl (lv_at hl 3 rfl) ?_
  refine wo_vL (As := [.int (nI bb), .int (nI sd), .int (nI pp)]) (rest := []) (kX0_shareOf l dC dI ca ad S bb sd pp (by first | assumption | omega) (by first | assumption | omega) (by first | assumption | omega)) ⟨hx, hb, hml, hown, hts⟩ (cwV 3 hts (wa_gV wd_218 wd_219 wd_220 wd_4 wd_221) rfl rfl rfl (by decide +kernel) ⟨Nat.le_of_ble_eq_true rfl, Nat.le_of_ble_eq_true rfl⟩) hK hw hA 2 rfl rfl rfl rfl hl.1 rfl (Nat.le_of_ble_eq_true rfl) dX0_emptyShare_4 ⟨Nat.zero_le _, Nat.zero_le _⟩ (fun r_1 S_1 H locs hp_1 hw => ?_)
  have e9 := hp_1.1.symm
  subst e9
  have e9 := hp_1.2.symm
  subst e9
  refine lv_lstore (lv' := [(4, .long (S.2 (14 + (bb * 2 + sd)) pp)), (0, .ref (ad 2)), (1, .int (nI bb)), (2, .int (nI sd)), (3, .int (nI pp))]) hx hb dX0_emptyShare_7 hl (by decide) rfl (fun ls hl => ?_)
  refine lv_aload_n hx hb dX0_emptyShare_9 rfl (lv_at hl 1 rfl) ?_
  refine lv_iload_n hx hb dX0_emptyShare_10 rfl (lv_at hl 2 rfl) ?_
  refine lv_iload_n hx hb dX0_emptyShare_11 rfl (lv_at hl 3 rfl) ?_
  refine lv_iload_n hx hb dX0_emptyShare_12 rfl (lv_at hl 4 rfl) ?_
  refine lv_lload hx hb dX0_emptyShare_13 (lv_at hl 0 rfl) ?_
  refine lv_lneg hx hb dX0_emptyShare_15 ?_
  refine wo_vV (As := [.int (nI bb), .int (nI sd), .int (nI pp), .long (-(S.2 (14 + (bb * 2 + sd)) pp))]) (rest := []) (kX0_addToShare l dC dI ca ad S bb sd pp (-(S.2 (14 + (bb * 2 + sd)) pp)) (by first | assumption | omega) (by first | assumption | omega) (by first | assumption | omega)) ⟨hx, hb, hml, hown, hts⟩ (cwV 4 hts (wa_gV wd_225 wd_226 wd_227 wd_4 wd_228) rfl rfl rfl (by decide +kernel) ⟨Nat.le_of_ble_eq_true rfl, Nat.le_of_ble_eq_true rfl⟩) hK hw hA 2 rfl rfl rfl rfl hl.1 rfl (Nat.le_of_ble_eq_true rfl) dX0_emptyShare_16 ⟨Nat.zero_le _, Nat.zero_le _⟩ (fun S_2 H locs hp_2 hw => ?_)
  have e9 := hp_2.symm
  subst e9
  refine lv_lload hx hb dX0_emptyShare_19 (lv_at hl 0 rfl) ?_
  exact ct_lret (S := addSh S (bb * 2 + sd) pp (-(S.2 (14 + (bb * 2 + sd)) pp))) (v := S.2 (14 + (bb * 2 + sd)) pp) hx hb hr hlocks hK hw (⟨rfl, rfl⟩) dX0_emptyShare_21

set_option maxHeartbeats 4000000 in
set_option maxRecDepth 100000 in
theorem kX0_move (l : Launch) (dC : Nat → ClassId) (dI : Nat → Nat → Nat) (ca : Nat → ClassId) (ad : Nat → Nat) (S : sSt) (bb : Nat) (pp : Nat) (vv : Int64) (hb6 : bb < 6) (hp6 : pp < 6) : ct_I l yX0_move (Cond.code yX0_move cX0_move 7 (some .boolean) :: wa_T) ({ frames := 1, cells := 0, slots := 0, locals := 25 } : Room) (dC, dI) vwCl (tyl ca) (wc ca ad) S [.ref (ad 2), .int (nI bb), .int (nI pp), .long vv] (fun r S2 => r = bI (mvOk S bb pp vv) ∧ S2 = if mvOk S bb pp vv = true then mvS S bb pp vv else S) := by
  refine ct_ofI (by decide) (Nat.le_of_ble_eq_true rfl) ?_
  intro p e s m below meth c A ls hx hb hr hml hts hown hlocks hK hA hw hl
  have hl : lv_has ls 7 [(0, .ref (ad 2)), (1, .int (nI bb)), (2, .int (nI pp)), (3, .long vv)] := hl
  refine lv_lload_n hx hb dX0_move_0 rfl (lv_at hl 3 rfl) ?_
  refine lv_lconst (v := 0) hx hb dX0_move_1 (by decide) ?_
  refine lc_le (tgt := 16) hx hb dX0_move_2 dX0_move_3 (by decide) (fun c_1 => ?_) (fun c_1 => ?_)
  · skip
    refine lv_aload_n hx hb dX0_move_16 rfl (lv_at hl 0 rfl) ?_
    refine lv_iload_n hx hb dX0_move_17 rfl (lv_at hl 1 rfl) ?_
    refine lv_iconst (v := nI 1) hx hb dX0_move_18 (by decide) ?_
    refine lv_iload_n hx hb dX0_move_19 rfl (lv_at hl 2 rfl) ?_
    refine wo_vL (As := [.int (nI bb), .int (nI 1), .int (nI pp)]) (rest := []) (kX0_shareOf l dC dI ca ad S bb 1 pp (by first | assumption | omega) (by first | assumption | omega) (by first | assumption | omega)) ⟨hx, hb, hml, hown, hts⟩ (cwV 3 hts (wa_gV wd_218 wd_219 wd_220 wd_4 wd_221) rfl rfl rfl (by decide +kernel) ⟨Nat.le_of_ble_eq_true rfl, Nat.le_of_ble_eq_true rfl⟩) hK hw hA 2 rfl rfl rfl rfl hl.1 rfl (Nat.le_of_ble_eq_true rfl) dX0_move_20 ⟨Nat.zero_le _, Nat.zero_le _⟩ (fun r_2 S_2 H locs hp_2 hw => ?_)
    have e9 := hp_2.1.symm
    subst e9
    have e9 := hp_2.2.symm
    subst e9
    refine lv_lstore (lv' := [(5, .long (S.2 (14 + (bb * 2 + 1)) pp)), (0, .ref (ad 2)), (1, .int (nI bb)), (2, .int (nI pp)), (3, .long vv)]) hx hb dX0_move_23 hl (by decide) rfl (fun ls hl => ?_)
    refine lv_lload hx hb dX0_move_25 (lv_at hl 0 rfl) ?_
    refine lv_lload_n hx hb dX0_move_27 rfl (lv_at hl 4 rfl) ?_
    refine va_mabs_long hx hb (hml.trans hl.1.symm) hown (hts _ wd_222) (hts _ wd_223) (hts _ wd_15) (hts _ wd_224) (Nat.le_of_ble_eq_true rfl) (Nat.le_of_ble_eq_true rfl) (Nat.zero_le _) (Nat.zero_le _) dX0_move_28 ?_
    refine lc_ge (tgt := 37) hx hb dX0_move_31 dX0_move_32 (by decide) (fun c_3 => ?_) (fun c_3 => ?_)
    · skip
      refine lv_aload_n hx hb dX0_move_37 rfl (lv_at hl 1 rfl) ?_
      refine lv_iload_n hx hb dX0_move_38 rfl (lv_at hl 2 rfl) ?_
      refine lv_iconst (v := nI 0) hx hb dX0_move_39 (by decide) ?_
      refine lv_iload_n hx hb dX0_move_40 rfl (lv_at hl 3 rfl) ?_
      refine lv_lload_n hx hb dX0_move_41 rfl (lv_at hl 4 rfl) ?_
      refine lv_lneg hx hb dX0_move_42 ?_
      refine wo_vV (As := [.int (nI bb), .int (nI 0), .int (nI pp), .long (-vv)]) (rest := []) (kX0_addToShare l dC dI ca ad S bb 0 pp (-vv) (by first | assumption | omega) (by first | assumption | omega) (by first | assumption | omega)) ⟨hx, hb, hml, hown, hts⟩ (cwV 4 hts (wa_gV wd_225 wd_226 wd_227 wd_4 wd_228) rfl rfl rfl (by decide +kernel) ⟨Nat.le_of_ble_eq_true rfl, Nat.le_of_ble_eq_true rfl⟩) hK hw hA 2 rfl rfl rfl rfl hl.1 rfl (Nat.le_of_ble_eq_true rfl) dX0_move_43 ⟨Nat.zero_le _, Nat.zero_le _⟩ (fun S_4 H locs hp_4 hw => ?_)
      have e9 := hp_4.symm
      subst e9
      refine lv_aload_n hx hb dX0_move_46 rfl (lv_at hl 1 rfl) ?_
      refine lv_iload_n hx hb dX0_move_47 rfl (lv_at hl 2 rfl) ?_
      refine lv_iconst (v := nI 1) hx hb dX0_move_48 (by decide) ?_
      refine lv_iload_n hx hb dX0_move_49 rfl (lv_at hl 3 rfl) ?_
      refine lv_lload_n hx hb dX0_move_50 rfl (lv_at hl 4 rfl) ?_
      refine wo_vV (As := [.int (nI bb), .int (nI 1), .int (nI pp), .long vv]) (rest := []) (kX0_addToShare l dC dI ca ad (addSh S (bb * 2 + 0) pp (-vv)) bb 1 pp vv (by first | assumption | omega) (by first | assumption | omega) (by first | assumption | omega)) ⟨hx, hb, hml, hown, hts⟩ (cwV 4 hts (wa_gV wd_225 wd_226 wd_227 wd_4 wd_228) rfl rfl rfl (by decide +kernel) ⟨Nat.le_of_ble_eq_true rfl, Nat.le_of_ble_eq_true rfl⟩) hK hw hA 2 rfl rfl rfl rfl hl.1 rfl (Nat.le_of_ble_eq_true rfl) dX0_move_51 ⟨Nat.zero_le _, Nat.zero_le _⟩ (fun S_5 H locs hp_5 hw => ?_)
      have e9 := hp_5.symm
      subst e9
      refine lv_aload_n hx hb dX0_move_54 rfl (lv_at hl 1 rfl) ?_
      refine wo_get hx hb hts inX0 hown hK hw 2 rfl rfl 2 (by decide) (hts _ wd_67) (fun _ h9 => h9) rfl dX0_move_55 ?_
      refine lv_iload_n hx hb dX0_move_58 rfl (lv_at hl 2 rfl) ?_
      refine lv_dup2_11 hx hb dX0_move_59 rfl rfl ?_
      refine wo_lald hx hb hK hw 11 1 rfl rfl bb rfl (by first | assumption | omega) (by decide) dX0_move_60 ?_
      refine lv_lload_n hx hb dX0_move_61 rfl (lv_at hl 4 rfl) ?_
      refine lv_lsub hx hb dX0_move_62 ?_
      refine wo_last hx hb hK hw 11 1 rfl rfl bb rfl (by first | assumption | omega) (by decide) (se_11 ca ad (addSh (addSh S (bb * 2 + 0) pp (-vv)) (bb * 2 + 1) pp vv) bb (((addSh (addSh S (bb * 2 + 0) pp (-vv)) (bb * 2 + 1) pp vv).2 11 bb) - vv)) dX0_move_63 (fun H locs hw => ?_)
      refine lv_iconst (v := nI 1) hx hb dX0_move_64 (by decide) ?_
      exact ct_zret (S := sL (addSh (addSh S (bb * 2 + 0) pp (-vv)) (bb * 2 + 1) pp vv) 11 bb (((addSh (addSh S (bb * 2 + 0) pp (-vv)) (bb * 2 + 1) pp vv).2 11 bb) - vv)) (v := nI 1) hx hb hr hlocks hK (by first | decide | exact nb_z _) hw (⟨by simp only [bI, mvOk, c_1, c_3, decide_true, decide_false, Bool.not_true, Bool.not_false, Bool.true_and, Bool.and_true, Bool.false_and, Bool.and_false, Bool.or_true, Bool.true_or, Bool.or_false, Bool.false_or, Bool.false_eq_true, Bool.true_eq_false, if_true, if_false, ↓reduceIte], by simp only [mvOk, mvS, c_1, c_3, decide_true, decide_false, Bool.not_true, Bool.not_false, Bool.true_and, Bool.and_true, Bool.false_and, Bool.and_false, Bool.or_true, Bool.true_or, Bool.or_false, Bool.false_or, Bool.false_eq_true, Bool.true_eq_false, if_true, if_false, ↓reduceIte]⟩) dX0_move_65
    · skip
      refine lv_iconst (v := nI 0) hx hb dX0_move_35 (by decide) ?_
      exact ct_zret (S := S) (v := nI 0) hx hb hr hlocks hK (by first | decide | exact nb_z _) hw (⟨by simp only [bI, mvOk, c_1, c_3, decide_true, decide_false, Bool.not_true, Bool.not_false, Bool.true_and, Bool.and_true, Bool.false_and, Bool.and_false, Bool.or_true, Bool.true_or, Bool.or_false, Bool.false_or, Bool.false_eq_true, Bool.true_eq_false, if_true, if_false, ↓reduceIte], by simp only [mvOk, mvS, c_1, c_3, decide_true, decide_false, Bool.not_true, Bool.not_false, Bool.true_and, Bool.and_true, Bool.false_and, Bool.and_false, Bool.or_true, Bool.true_or, Bool.or_false, Bool.false_or, Bool.false_eq_true, Bool.true_eq_false, if_true, if_false, ↓reduceIte]⟩) dX0_move_36
  · skip
    refine lv_aload_n hx hb dX0_move_6 rfl (lv_at hl 0 rfl) ?_
    refine lv_iload_n hx hb dX0_move_7 rfl (lv_at hl 1 rfl) ?_
    refine lv_iconst (v := nI 0) hx hb dX0_move_8 (by decide) ?_
    refine lv_iload_n hx hb dX0_move_9 rfl (lv_at hl 2 rfl) ?_
    refine wo_vL (As := [.int (nI bb), .int (nI 0), .int (nI pp)]) (rest := []) (kX0_shareOf l dC dI ca ad S bb 0 pp (by first | assumption | omega) (by first | assumption | omega) (by first | assumption | omega)) ⟨hx, hb, hml, hown, hts⟩ (cwV 3 hts (wa_gV wd_218 wd_219 wd_220 wd_4 wd_221) rfl rfl rfl (by decide +kernel) ⟨Nat.le_of_ble_eq_true rfl, Nat.le_of_ble_eq_true rfl⟩) hK hw hA 2 rfl rfl rfl rfl hl.1 rfl (Nat.le_of_ble_eq_true rfl) dX0_move_10 ⟨Nat.zero_le _, Nat.zero_le _⟩ (fun r_6 S_6 H locs hp_6 hw => ?_)
    have e9 := hp_6.1.symm
    subst e9
    have e9 := hp_6.2.symm
    subst e9
    refine lv_goto (tgt := 23) hx hb dX0_move_13 (by decide) ?_
    refine lv_lstore (lv' := [(5, .long (S.2 (14 + (bb * 2 + 0)) pp)), (0, .ref (ad 2)), (1, .int (nI bb)), (2, .int (nI pp)), (3, .long vv)]) hx hb dX0_move_23 hl (by decide) rfl (fun ls hl => ?_)
    refine lv_lload hx hb dX0_move_25 (lv_at hl 0 rfl) ?_
    refine lv_lload_n hx hb dX0_move_27 rfl (lv_at hl 4 rfl) ?_
    refine va_mabs_long hx hb (hml.trans hl.1.symm) hown (hts _ wd_222) (hts _ wd_223) (hts _ wd_15) (hts _ wd_224) (Nat.le_of_ble_eq_true rfl) (Nat.le_of_ble_eq_true rfl) (Nat.zero_le _) (Nat.zero_le _) dX0_move_28 ?_
    refine lc_ge (tgt := 37) hx hb dX0_move_31 dX0_move_32 (by decide) (fun c_7 => ?_) (fun c_7 => ?_)
    · skip
      refine lv_aload_n hx hb dX0_move_37 rfl (lv_at hl 1 rfl) ?_
      refine lv_iload_n hx hb dX0_move_38 rfl (lv_at hl 2 rfl) ?_
      refine lv_iconst (v := nI 0) hx hb dX0_move_39 (by decide) ?_
      refine lv_iload_n hx hb dX0_move_40 rfl (lv_at hl 3 rfl) ?_
      refine lv_lload_n hx hb dX0_move_41 rfl (lv_at hl 4 rfl) ?_
      refine lv_lneg hx hb dX0_move_42 ?_
      refine wo_vV (As := [.int (nI bb), .int (nI 0), .int (nI pp), .long (-vv)]) (rest := []) (kX0_addToShare l dC dI ca ad S bb 0 pp (-vv) (by first | assumption | omega) (by first | assumption | omega) (by first | assumption | omega)) ⟨hx, hb, hml, hown, hts⟩ (cwV 4 hts (wa_gV wd_225 wd_226 wd_227 wd_4 wd_228) rfl rfl rfl (by decide +kernel) ⟨Nat.le_of_ble_eq_true rfl, Nat.le_of_ble_eq_true rfl⟩) hK hw hA 2 rfl rfl rfl rfl hl.1 rfl (Nat.le_of_ble_eq_true rfl) dX0_move_43 ⟨Nat.zero_le _, Nat.zero_le _⟩ (fun S_8 H locs hp_8 hw => ?_)
      have e9 := hp_8.symm
      subst e9
      refine lv_aload_n hx hb dX0_move_46 rfl (lv_at hl 1 rfl) ?_
      refine lv_iload_n hx hb dX0_move_47 rfl (lv_at hl 2 rfl) ?_
      refine lv_iconst (v := nI 1) hx hb dX0_move_48 (by decide) ?_
      refine lv_iload_n hx hb dX0_move_49 rfl (lv_at hl 3 rfl) ?_
      refine lv_lload_n hx hb dX0_move_50 rfl (lv_at hl 4 rfl) ?_
      refine wo_vV (As := [.int (nI bb), .int (nI 1), .int (nI pp), .long vv]) (rest := []) (kX0_addToShare l dC dI ca ad (addSh S (bb * 2 + 0) pp (-vv)) bb 1 pp vv (by first | assumption | omega) (by first | assumption | omega) (by first | assumption | omega)) ⟨hx, hb, hml, hown, hts⟩ (cwV 4 hts (wa_gV wd_225 wd_226 wd_227 wd_4 wd_228) rfl rfl rfl (by decide +kernel) ⟨Nat.le_of_ble_eq_true rfl, Nat.le_of_ble_eq_true rfl⟩) hK hw hA 2 rfl rfl rfl rfl hl.1 rfl (Nat.le_of_ble_eq_true rfl) dX0_move_51 ⟨Nat.zero_le _, Nat.zero_le _⟩ (fun S_9 H locs hp_9 hw => ?_)
      have e9 := hp_9.symm
      subst e9
      refine lv_aload_n hx hb dX0_move_54 rfl (lv_at hl 1 rfl) ?_
      refine wo_get hx hb hts inX0 hown hK hw 2 rfl rfl 2 (by decide) (hts _ wd_67) (fun _ h9 => h9) rfl dX0_move_55 ?_
      refine lv_iload_n hx hb dX0_move_58 rfl (lv_at hl 2 rfl) ?_
      refine lv_dup2_11 hx hb dX0_move_59 rfl rfl ?_
      refine wo_lald hx hb hK hw 11 1 rfl rfl bb rfl (by first | assumption | omega) (by decide) dX0_move_60 ?_
      refine lv_lload_n hx hb dX0_move_61 rfl (lv_at hl 4 rfl) ?_
      refine lv_lsub hx hb dX0_move_62 ?_
      refine wo_last hx hb hK hw 11 1 rfl rfl bb rfl (by first | assumption | omega) (by decide) (se_11 ca ad (addSh (addSh S (bb * 2 + 0) pp (-vv)) (bb * 2 + 1) pp vv) bb (((addSh (addSh S (bb * 2 + 0) pp (-vv)) (bb * 2 + 1) pp vv).2 11 bb) - vv)) dX0_move_63 (fun H locs hw => ?_)
      refine lv_iconst (v := nI 1) hx hb dX0_move_64 (by decide) ?_
      exact ct_zret (S := sL (addSh (addSh S (bb * 2 + 0) pp (-vv)) (bb * 2 + 1) pp vv) 11 bb (((addSh (addSh S (bb * 2 + 0) pp (-vv)) (bb * 2 + 1) pp vv).2 11 bb) - vv)) (v := nI 1) hx hb hr hlocks hK (by first | decide | exact nb_z _) hw (⟨by simp only [bI, mvOk, c_1, c_7, decide_true, decide_false, Bool.not_true, Bool.not_false, Bool.true_and, Bool.and_true, Bool.false_and, Bool.and_false, Bool.or_true, Bool.true_or, Bool.or_false, Bool.false_or, Bool.false_eq_true, Bool.true_eq_false, if_true, if_false, ↓reduceIte], by simp only [mvOk, mvS, c_1, c_7, decide_true, decide_false, Bool.not_true, Bool.not_false, Bool.true_and, Bool.and_true, Bool.false_and, Bool.and_false, Bool.or_true, Bool.true_or, Bool.or_false, Bool.false_or, Bool.false_eq_true, Bool.true_eq_false, if_true, if_false, ↓reduceIte]⟩) dX0_move_65
    · skip
      refine lv_iconst (v := nI 0) hx hb dX0_move_35 (by decide) ?_
      exact ct_zret (S := S) (v := nI 0) hx hb hr hlocks hK (by first | decide | exact nb_z _) hw (⟨by simp only [bI, mvOk, c_1, c_7, decide_true, decide_false, Bool.not_true, Bool.not_false, Bool.true_and, Bool.and_true, Bool.false_and, Bool.and_false, Bool.or_true, Bool.true_or, Bool.or_false, Bool.false_or, Bool.false_eq_true, Bool.true_eq_false, if_true, if_false, ↓reduceIte], by simp only [mvOk, mvS, c_1, c_7, decide_true, decide_false, Bool.not_true, Bool.not_false, Bool.true_and, Bool.and_true, Bool.false_and, Bool.and_false, Bool.or_true, Bool.true_or, Bool.or_false, Bool.false_or, Bool.false_eq_true, Bool.true_eq_false, if_true, if_false, ↓reduceIte]⟩) dX0_move_36
