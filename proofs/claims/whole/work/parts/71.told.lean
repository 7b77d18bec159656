theorem dX6_isTold_0 : decode cX6_isTold 0 = .ok (.iconst 0, 1) := by decide +kernel
theorem dX6_isTold_1 : decode cX6_isTold 1 = .ok (.istore_n 2, 1) := by decide +kernel
theorem dX6_isTold_2 : decode cX6_isTold 2 = .ok (.iconst 0, 1) := by decide +kernel
theorem dX6_isTold_3 : decode cX6_isTold 3 = .ok (.istore_n 3, 1) := by decide +kernel
theorem dX6_isTold_4 : decode cX6_isTold 4 = .ok (.iload_n 3, 1) := by decide +kernel
theorem dX6_isTold_5 : decode cX6_isTold 5 = .ok (.bipush 6, 2) := by decide +kernel
theorem dX6_isTold_7 : decode cX6_isTold 7 = .ok (.if_icmp .ge 49, 3) := by decide +kernel
theorem dX6_isTold_10 : decode cX6_isTold 10 = .ok (.aload_n 0, 1) := by decide +kernel
theorem dX6_isTold_11 : decode cX6_isTold 11 = .ok (.iload_n 3, 1) := by decide +kernel
theorem dX6_isTold_12 : decode cX6_isTold 12 = .ok (.invokevirtual 91, 3) := by decide +kernel
theorem dX6_isTold_15 : decode cX6_isTold 15 = .ok (.ifCond .eq 19, 3) := by decide +kernel
theorem dX6_isTold_18 : decode cX6_isTold 18 = .ok (.aload_n 0, 1) := by decide +kernel
theorem dX6_isTold_19 : decode cX6_isTold 19 = .ok (.getfield 33, 3) := by decide +kernel
theorem dX6_isTold_22 : decode cX6_isTold 22 = .ok (.bipush 6, 2) := by decide +kernel
theorem dX6_isTold_24 : decode cX6_isTold 24 = .ok (.iload_n 1, 1) := by decide +kernel
theorem dX6_isTold_25 : decode cX6_isTold 25 = .ok (.imul, 1) := by decide +kernel
theorem dX6_isTold_26 : decode cX6_isTold 26 = .ok (.iload_n 3, 1) := by decide +kernel
theorem dX6_isTold_27 : decode cX6_isTold 27 = .ok (.iadd, 1) := by decide +kernel
theorem dX6_isTold_28 : decode cX6_isTold 28 = .ok (.baload, 1) := by decide +kernel
theorem dX6_isTold_29 : decode cX6_isTold 29 = .ok (.ifCond .ne 5, 3) := by decide +kernel
theorem dX6_isTold_32 : decode cX6_isTold 32 = .ok (.iconst 0, 1) := by decide +kernel
theorem dX6_isTold_33 : decode cX6_isTold 33 = .ok (.ireturn, 1) := by decide +kernel
theorem dX6_isTold_34 : decode cX6_isTold 34 = .ok (.iload_n 2, 1) := by decide +kernel
theorem dX6_isTold_35 : decode cX6_isTold 35 = .ok (.aload_n 0, 1) := by decide +kernel
theorem dX6_isTold_36 : decode cX6_isTold 36 = .ok (.iload_n 3, 1) := by decide +kernel
theorem dX6_isTold_37 : decode cX6_isTold 37 = .ok (.invokevirtual 91, 3) := by decide +kernel
theorem dX6_isTold_40 : decode cX6_isTold 40 = .ok (.ifCond .eq 7, 3) := by decide +kernel
theorem dX6_isTold_43 : decode cX6_isTold 43 = .ok (.iconst 1, 1) := by decide +kernel
theorem dX6_isTold_44 : decode cX6_isTold 44 = .ok (.goto 4, 3) := by decide +kernel
theorem dX6_isTold_47 : decode cX6_isTold 47 = .ok (.iconst 0, 1) := by decide +kernel
theorem dX6_isTold_48 : decode cX6_isTold 48 = .ok (.iadd, 1) := by decide +kernel
theorem dX6_isTold_49 : decode cX6_isTold 49 = .ok (.istore_n 2, 1) := by decide +kernel
theorem dX6_isTold_50 : decode cX6_isTold 50 = .ok (.iinc 3 1, 3) := by decide +kernel
theorem dX6_isTold_53 : decode cX6_isTold 53 = .ok (.goto (-49), 3) := by decide +kernel
theorem dX6_isTold_56 : decode cX6_isTold 56 = .ok (.iload_n 2, 1) := by decide +kernel
theorem dX6_isTold_57 : decode cX6_isTold 57 = .ok (.ifCond .le 7, 3) := by decide +kernel
theorem dX6_isTold_60 : decode cX6_isTold 60 = .ok (.iconst 1, 1) := by decide +kernel
theorem dX6_isTold_61 : decode cX6_isTold 61 = .ok (.goto 4, 3) := by decide +kernel
theorem dX6_isTold_64 : decode cX6_isTold 64 = .ok (.iconst 0, 1) := by decide +kernel
theorem dX6_isTold_65 : decode cX6_isTold 65 = .ok (.ireturn, 1) := by decide +kernel

theorem dX6_shares_0 : decode cX6_shares 0 = .ok (.lconst 0, 1) := by decide +kernel
theorem dX6_shares_1 : decode cX6_shares 1 = .ok (.lstore 4, 2) := by decide +kernel
theorem dX6_shares_3 : decode cX6_shares 3 = .ok (.iconst 0, 1) := by decide +kernel
theorem dX6_shares_4 : decode cX6_shares 4 = .ok (.istore 6, 2) := by decide +kernel
theorem dX6_shares_6 : decode cX6_shares 6 = .ok (.iload 6, 2) := by decide +kernel
theorem dX6_shares_8 : decode cX6_shares 8 = .ok (.bipush 6, 2) := by decide +kernel
theorem dX6_shares_10 : decode cX6_shares 10 = .ok (.if_icmp .ge 40, 3) := by decide +kernel
theorem dX6_shares_13 : decode cX6_shares 13 = .ok (.lload 4, 2) := by decide +kernel
theorem dX6_shares_15 : decode cX6_shares 15 = .ok (.aload_n 0, 1) := by decide +kernel
theorem dX6_shares_16 : decode cX6_shares 16 = .ok (.iload 6, 2) := by decide +kernel
theorem dX6_shares_18 : decode cX6_shares 18 = .ok (.invokevirtual 91, 3) := by decide +kernel
theorem dX6_shares_21 : decode cX6_shares 21 = .ok (.iload_n 3, 1) := by decide +kernel
theorem dX6_shares_22 : decode cX6_shares 22 = .ok (.if_icmp .ne 18, 3) := by decide +kernel
theorem dX6_shares_25 : decode cX6_shares 25 = .ok (.aload_n 0, 1) := by decide +kernel
theorem dX6_shares_26 : decode cX6_shares 26 = .ok (.getfield 19, 3) := by decide +kernel
theorem dX6_shares_29 : decode cX6_shares 29 = .ok (.iload_n 1, 1) := by decide +kernel
theorem dX6_shares_30 : decode cX6_shares 30 = .ok (.iload_n 2, 1) := by decide +kernel
theorem dX6_shares_31 : decode cX6_shares 31 = .ok (.iload 6, 2) := by decide +kernel
theorem dX6_shares_33 : decode cX6_shares 33 = .ok (.invokestatic 111, 3) := by decide +kernel
theorem dX6_shares_36 : decode cX6_shares 36 = .ok (.laload, 1) := by decide +kernel
theorem dX6_shares_37 : decode cX6_shares 37 = .ok (.goto 4, 3) := by decide +kernel
theorem dX6_shares_40 : decode cX6_shares 40 = .ok (.lconst 0, 1) := by decide +kernel
theorem dX6_shares_41 : decode cX6_shares 41 = .ok (.ladd, 1) := by decide +kernel
theorem dX6_shares_42 : decode cX6_shares 42 = .ok (.lstore 4, 2) := by decide +kernel
theorem dX6_shares_44 : decode cX6_shares 44 = .ok (.iinc 6 1, 3) := by decide +kernel
theorem dX6_shares_47 : decode cX6_shares 47 = .ok (.goto (-41), 3) := by decide +kernel
theorem dX6_shares_50 : decode cX6_shares 50 = .ok (.lload 4, 2) := by decide +kernel
theorem dX6_shares_52 : decode cX6_shares 52 = .ok (.lreturn, 1) := by decide +kernel

theorem dX6_inRows_0 : decode cX6_inRows 0 = .ok (.lconst 0, 1) := by decide +kernel
theorem dX6_inRows_1 : decode cX6_inRows 1 = .ok (.lstore 4, 2) := by decide +kernel
theorem dX6_inRows_3 : decode cX6_inRows 3 = .ok (.iconst 1, 1) := by decide +kernel
theorem dX6_inRows_4 : decode cX6_inRows 4 = .ok (.istore 6, 2) := by decide +kernel
theorem dX6_inRows_6 : decode cX6_inRows 6 = .ok (.iload 6, 2) := by decide +kernel
theorem dX6_inRows_8 : decode cX6_inRows 8 = .ok (.aload_n 0, 1) := by decide +kernel
theorem dX6_inRows_9 : decode cX6_inRows 9 = .ok (.getfield 130, 3) := by decide +kernel
theorem dX6_inRows_12 : decode cX6_inRows 12 = .ok (.if_icmp .gt 109, 3) := by decide +kernel
theorem dX6_inRows_15 : decode cX6_inRows 15 = .ok (.aload_n 0, 1) := by decide +kernel
theorem dX6_inRows_16 : decode cX6_inRows 16 = .ok (.getfield 45, 3) := by decide +kernel
theorem dX6_inRows_19 : decode cX6_inRows 19 = .ok (.iload 6, 2) := by decide +kernel
theorem dX6_inRows_21 : decode cX6_inRows 21 = .ok (.iaload, 1) := by decide +kernel
theorem dX6_inRows_22 : decode cX6_inRows 22 = .ok (.iload_n 1, 1) := by decide +kernel
theorem dX6_inRows_23 : decode cX6_inRows 23 = .ok (.if_icmp .ne 92, 3) := by decide +kernel
theorem dX6_inRows_26 : decode cX6_inRows 26 = .ok (.aload_n 0, 1) := by decide +kernel
theorem dX6_inRows_27 : decode cX6_inRows 27 = .ok (.getfield 48, 3) := by decide +kernel
theorem dX6_inRows_30 : decode cX6_inRows 30 = .ok (.iload 6, 2) := by decide +kernel
theorem dX6_inRows_32 : decode cX6_inRows 32 = .ok (.iaload, 1) := by decide +kernel
theorem dX6_inRows_33 : decode cX6_inRows 33 = .ok (.iload_n 2, 1) := by decide +kernel
theorem dX6_inRows_34 : decode cX6_inRows 34 = .ok (.if_icmp .ne 81, 3) := by decide +kernel
theorem dX6_inRows_37 : decode cX6_inRows 37 = .ok (.aload_n 0, 1) := by decide +kernel
theorem dX6_inRows_38 : decode cX6_inRows 38 = .ok (.getfield 60, 3) := by decide +kernel
theorem dX6_inRows_41 : decode cX6_inRows 41 = .ok (.iload 6, 2) := by decide +kernel
theorem dX6_inRows_43 : decode cX6_inRows 43 = .ok (.iaload, 1) := by decide +kernel
theorem dX6_inRows_44 : decode cX6_inRows 44 = .ok (.iconst 1, 1) := by decide +kernel
theorem dX6_inRows_45 : decode cX6_inRows 45 = .ok (.if_icmp .eq 70, 3) := by decide +kernel
theorem dX6_inRows_48 : decode cX6_inRows 48 = .ok (.aload_n 0, 1) := by decide +kernel
theorem dX6_inRows_49 : decode cX6_inRows 49 = .ok (.getfield 66, 3) := by decide +kernel
theorem dX6_inRows_52 : decode cX6_inRows 52 = .ok (.iload 6, 2) := by decide +kernel
theorem dX6_inRows_54 : decode cX6_inRows 54 = .ok (.baload, 1) := by decide +kernel
theorem dX6_inRows_55 : decode cX6_inRows 55 = .ok (.ifCond .eq 6, 3) := by decide +kernel
theorem dX6_inRows_58 : decode cX6_inRows 58 = .ok (.goto 57, 3) := by decide +kernel
theorem dX6_inRows_61 : decode cX6_inRows 61 = .ok (.aload_n 0, 1) := by decide +kernel
theorem dX6_inRows_62 : decode cX6_inRows 62 = .ok (.getfield 60, 3) := by decide +kernel
theorem dX6_inRows_65 : decode cX6_inRows 65 = .ok (.iload 6, 2) := by decide +kernel
theorem dX6_inRows_67 : decode cX6_inRows 67 = .ok (.iaload, 1) := by decide +kernel
theorem dX6_inRows_68 : decode cX6_inRows 68 = .ok (.iconst 2, 1) := by decide +kernel
theorem dX6_inRows_69 : decode cX6_inRows 69 = .ok (.if_icmp .eq 17, 3) := by decide +kernel
theorem dX6_inRows_72 : decode cX6_inRows 72 = .ok (.aload_n 0, 1) := by decide +kernel
theorem dX6_inRows_73 : decode cX6_inRows 73 = .ok (.aload_n 0, 1) := by decide +kernel
theorem dX6_inRows_74 : decode cX6_inRows 74 = .ok (.getfield 54, 3) := by decide +kernel
theorem dX6_inRows_77 : decode cX6_inRows 77 = .ok (.iload 6, 2) := by decide +kernel
theorem dX6_inRows_79 : decode cX6_inRows 79 = .ok (.iaload, 1) := by decide +kernel
theorem dX6_inRows_80 : decode cX6_inRows 80 = .ok (.invokevirtual 91, 3) := by decide +kernel
theorem dX6_inRows_83 : decode cX6_inRows 83 = .ok (.ifCond .ne 7, 3) := by decide +kernel
theorem dX6_inRows_86 : decode cX6_inRows 86 = .ok (.iconst 1, 1) := by decide +kernel
theorem dX6_inRows_87 : decode cX6_inRows 87 = .ok (.goto 4, 3) := by decide +kernel
theorem dX6_inRows_90 : decode cX6_inRows 90 = .ok (.iconst 0, 1) := by decide +kernel
theorem dX6_inRows_91 : decode cX6_inRows 91 = .ok (.istore 7, 2) := by decide +kernel
theorem dX6_inRows_93 : decode cX6_inRows 93 = .ok (.lload 4, 2) := by decide +kernel
theorem dX6_inRows_95 : decode cX6_inRows 95 = .ok (.iload 7, 2) := by decide +kernel
theorem dX6_inRows_97 : decode cX6_inRows 97 = .ok (.iload_n 3, 1) := by decide +kernel
theorem dX6_inRows_98 : decode cX6_inRows 98 = .ok (.if_icmp .ne 13, 3) := by decide +kernel
theorem dX6_inRows_101 : decode cX6_inRows 101 = .ok (.aload_n 0, 1) := by decide +kernel
theorem dX6_inRows_102 : decode cX6_inRows 102 = .ok (.getfield 57, 3) := by decide +kernel
theorem dX6_inRows_105 : decode cX6_inRows 105 = .ok (.iload 6, 2) := by decide +kernel
theorem dX6_inRows_107 : decode cX6_inRows 107 = .ok (.laload, 1) := by decide +kernel
theorem dX6_inRows_108 : decode cX6_inRows 108 = .ok (.goto 4, 3) := by decide +kernel
theorem dX6_inRows_111 : decode cX6_inRows 111 = .ok (.lconst 0, 1) := by decide +kernel
theorem dX6_inRows_112 : decode cX6_inRows 112 = .ok (.ladd, 1) := by decide +kernel
theorem dX6_inRows_113 : decode cX6_inRows 113 = .ok (.lstore 4, 2) := by decide +kernel
theorem dX6_inRows_115 : decode cX6_inRows 115 = .ok (.iinc 6 1, 3) := by decide +kernel
theorem dX6_inRows_118 : decode cX6_inRows 118 = .ok (.goto (-112), 3) := by decide +kernel
theorem dX6_inRows_121 : decode cX6_inRows 121 = .ok (.lload 4, 2) := by decide +kernel
theorem dX6_inRows_123 : decode cX6_inRows 123 = .ok (.lreturn, 1) := by decide +kernel

set_option maxHeartbeats 4000000 in
set_option maxRecDepth 100000 in
theorem kX6_isTold (l : Launch) (dC : Nat → ClassId) (dI : Nat → Nat → Nat) (ca : Nat → ClassId) (ad : Nat → Nat) (S : sSt) (ee : Nat) (he : ee < 6) : ct_I l yX6_isTold (Cond.code yX6_isTold cX6_isTold 4 (some .boolean) :: wa_T) ({ frames := 2, cells := 0, slots := 0, locals := 46 } : Room) (dC, dI) vwCl (tyl ca) (wq ca ad) S [.ref (ad 0), .int (nI ee)] (fun r S2 => r = bI (mtl S ee) ∧ S2 = S) := by
  refine ct_ofI (by decide) (Nat.le_of_ble_eq_true rfl) ?_
  intro p e s m below meth c A ls hx hb hr hml hts hown hlocks hK hA hw hl
  have hl : lv_has ls 4 [(0, .ref (ad 0)), (1, .int (nI ee))] := hl
  refine lv_iconst (v := nI 0) hx hb dX6_isTold_0 (by decide) ?_
  refine lv_istore_n (lv' := [(2, .int (nI 0)), (0, .ref (ad 0)), (1, .int (nI ee))]) hx hb dX6_isTold_1 rfl hl (by decide) rfl (fun ls hl => ?_)
  refine lv_iconst (v := nI 0) hx hb dX6_isTold_2 (by decide) ?_
  refine lv_istore_n (lv' := [(3, .int (nI 0)), (2, .int (nI 0)), (0, .ref (ad 0)), (1, .int (nI ee))]) hx hb dX6_isTold_3 rfl hl (by decide) rfl (fun ls hl => ?_)
  have lp_4 : ∀ (n : Nat) (i : Nat), i ≤ 6 → 7 ≤ i + n → mta S ee i = true → ∀ (H : Heap) (locs : List Loc) (ls : Array Slot), wo_w (dC, dI) vwCl A s.heap (wq ca ad S) H locs → lv_has ls 4 [(0, .ref (ad 0)), (1, .int (nI ee)), (2, .int (mwc S i)), (3, .int (nI i))] → W p l e ({ frames := 2, cells := 0, slots := 0, locals := 46 } : Room) s m ([.ref (ad 0), .int (nI ee)] : List Value).toArray below meth c H locs 0 0 (MQ below (va_Qi (fun r S2 => r = bI (mtl S ee) ∧ S2 = S) (ct_B (dC, dI) vwCl (tyl ca) (wq ca ad) A) A) ([.ref (ad 0), .int (nI ee)] : List Value).toArray s 0 0 A) (F0 m 4 ls []) := by
    intro n
    induction n with
    | zero =>
      intro i hi hn hta
      exfalso
      omega
    | succ n ih_4 =>
      intro i hi hn hta H locs ls hw hl
      refine lv_iload_n hx hb dX6_isTold_4 rfl (lv_at hl 3 rfl) ?_
      refine lv_bipush (v := nI 6) hx hb dX6_isTold_5 (by decide) ?_
      refine lv_icmp_ge (tgt := 56) hx hb dX6_isTold_7 (by decide) (fun c_1 => ?_) (fun c_1 => ?_)
      · skip
        have c_1 : 6 ≤ i := (nI_leI (a := 6) (b := i) (by omega) (by omega)).mp c_1
        obtain rfl : 6 = i := by omega
        refine lv_iload_n hx hb dX6_isTold_56 rfl (lv_at hl 2 rfl) ?_
        refine lv_if_le (tgt := 64) hx hb dX6_isTold_57 (by decide) (fun c_2 => ?_) (fun c_2 => ?_)
        · skip
          refine lv_iconst (v := nI 0) hx hb dX6_isTold_64 (by decide) ?_
          exact ct_zret (S := S) (v := nI 0) hx hb hr hlocks hK (by first | decide | exact nb_z _) hw (⟨by simp only [bI, mtl, hta, c_2, decide_true, decide_false, Bool.not_true, Bool.not_false, Bool.true_and, Bool.and_true, Bool.false_and, Bool.and_false, Bool.or_true, Bool.true_or, Bool.or_false, Bool.false_or, Bool.false_eq_true, Bool.true_eq_false, if_true, if_false, ↓reduceIte], rfl⟩) dX6_isTold_65
        · skip
          refine lv_iconst (v := nI 1) hx hb dX6_isTold_60 (by decide) ?_
          refine lv_goto (tgt := 65) hx hb dX6_isTold_61 (by decide) ?_
          exact ct_zret (S := S) (v := nI 1) hx hb hr hlocks hK (by first | decide | exact nb_z _) hw (⟨by simp only [bI, mtl, hta, c_2, decide_true, decide_false, Bool.not_true, Bool.not_false, Bool.true_and, Bool.and_true, Bool.false_and, Bool.and_false, Bool.or_true, Bool.true_or, Bool.or_false, Bool.false_or, Bool.false_eq_true, Bool.true_eq_false, if_true, if_false, ↓reduceIte], rfl⟩) dX6_isTold_65
      · skip
        have c_1 : ¬ (6 ≤ i) := fun h9 => c_1 ((nI_leI (a := 6) (b := i) (by omega) (by omega)).mpr h9)
        refine lv_aload_n hx hb dX6_isTold_10 rfl (lv_at hl 0 rfl) ?_
        refine lv_iload_n hx hb dX6_isTold_11 rfl (lv_at hl 3 rfl) ?_
        refine wo_vI (As := [.int (nI i)]) (rest := []) (kX6_isWell l dC dI ca ad S (nI i)) ⟨hx, hb, hml, hown, hts⟩ (cwV 1 hts (wa_gV wd_655 wd_657 ws_13 wd_8 wd_658) rfl rfl rfl (by decide +kernel) ⟨Nat.le_of_ble_eq_true rfl, Nat.le_of_ble_eq_true rfl⟩) hK hw hA 0 rfl rfl rfl rfl hl.1 rfl (Nat.le_of_ble_eq_true rfl) dX6_isTold_12 ⟨Nat.zero_le _, Nat.zero_le _⟩ (fun r_3 S_3 H locs hp_3 hw => ?_)
        have e9 := hp_3.1.symm
        subst e9
        have e9 := hp_3.2.symm
        subst e9
        refine lv_if_eq (tgt := 34) hx hb dX6_isTold_15 (by decide) (fun c_4 => ?_) (fun c_4 => ?_)
        · skip
          have c_4 : mwl S (nI i) = false := nb_0 c_4
          refine lv_iload_n hx hb dX6_isTold_34 rfl (lv_at hl 2 rfl) ?_
          refine lv_aload_n hx hb dX6_isTold_35 rfl (lv_at hl 0 rfl) ?_
          refine lv_iload_n hx hb dX6_isTold_36 rfl (lv_at hl 3 rfl) ?_
          refine wo_vI (As := [.int (nI i)]) (rest := [.int (mwc S i)]) (kX6_isWell l dC dI ca ad S (nI i)) ⟨hx, hb, hml, hown, hts⟩ (cwV 1 hts (wa_gV wd_655 wd_657 ws_13 wd_8 wd_658) rfl rfl rfl (by decide +kernel) ⟨Nat.le_of_ble_eq_true rfl, Nat.le_of_ble_eq_true rfl⟩) hK hw hA 0 rfl rfl rfl rfl hl.1 rfl (Nat.le_of_ble_eq_true rfl) dX6_isTold_37 ⟨Nat.zero_le _, Nat.zero_le _⟩ (fun r_5 S_5 H locs hp_5 hw => ?_)
          have e9 := hp_5.1.symm
          subst e9
          have e9 := hp_5.2.symm
          subst e9
          refine lv_if_eq (tgt := 47) hx hb dX6_isTold_40 (by decide) (fun c_6 => ?_) (fun c_6 => ?_)
          · skip
            have c_6 : mwl S (nI i) = false := nb_0 c_6
            refine lv_iconst (v := nI 0) hx hb dX6_isTold_47 (by decide) ?_
            refine lv_iadd hx hb dX6_isTold_48 ?_
            refine lv_istore_n (lv' := [(2, .int ((mwc S i) + (nI 0))), (0, .ref (ad 0)), (1, .int (nI ee)), (3, .int (nI i))]) hx hb dX6_isTold_49 rfl hl (by decide) rfl (fun ls hl => ?_)
            refine lv_iinc (v := nI (i + 1)) (lv' := [(3, .int (nI (i + 1))), (2, .int ((mwc S i) + (nI 0))), (0, .ref (ad 0)), (1, .int (nI ee))]) hx hb dX6_isTold_50 hl (k := 3) rfl (nI_inc _) (by decide) rfl (fun ls hl => ?_)
            refine lv_goto (tgt := 4) hx hb dX6_isTold_53 (by decide) ?_
            have e9 : (mwc S i) + (nI 0) = mwc S (i + 1) := by first | rfl | (simp only [mwc, c_1, c_4, c_6, decide_true, decide_false, Bool.not_true, Bool.not_false, Bool.true_and, Bool.and_true, Bool.false_and, Bool.and_false, Bool.or_true, Bool.true_or, Bool.or_false, Bool.false_or, Bool.false_eq_true, Bool.true_eq_false, if_true, if_false, ↓reduceIte]; done)
            try rw [e9] at hl
            exact ih_4 (i + 1) (by omega) (by omega) (by simp only [mta, hta, c_4, c_6, decide_true, decide_false, Bool.not_true, Bool.not_false, Bool.true_and, Bool.and_true, Bool.false_and, Bool.and_false, Bool.or_true, Bool.true_or, Bool.or_false, Bool.false_or, Bool.false_eq_true, Bool.true_eq_false, if_true, if_false, ↓reduceIte]) _ _ _ hw (lv_sub hl [2, 3, 1, 0] rfl)
          · skip
            have c_6 : mwl S (nI i) = true := nb_1 c_6
            exact absurd (c_4.symm.trans c_6) (by decide)
        · skip
          have c_4 : mwl S (nI i) = true := nb_1 c_4
          refine lv_aload_n hx hb dX6_isTold_18 rfl (lv_at hl 0 rfl) ?_
          refine wo_get hx hb hts inX6 hown hK hw 0 rfl rfl 9 (by decide) (hts _ wd_574) (fun _ h9 => h9) rfl dX6_isTold_19 ?_
          refine lv_bipush (v := nI 6) hx hb dX6_isTold_22 (by decide) ?_
          refine lv_iload_n hx hb dX6_isTold_24 rfl (lv_at hl 1 rfl) ?_
          refine lv_imul hx hb dX6_isTold_25 ?_
          refine tp_i (pk_mul 6 ee) ?_
          refine lv_iload_n hx hb dX6_isTold_26 rfl (lv_at hl 3 rfl) ?_
          refine lv_iadd hx hb dX6_isTold_27 ?_
          refine tp_i (nI_add (6 * ee) i) ?_
          refine wo_zald hx hb hK hw 8 2 rfl rfl ((6 * ee) + i) rfl (by first | assumption | omega) (by decide) dX6_isTold_28 ?_
          refine lv_if_ne (tgt := 34) hx hb dX6_isTold_29 (by decide) (fun c_7 => ?_) (fun c_7 => ?_)
          · skip
            refine lv_iload_n hx hb dX6_isTold_34 rfl (lv_at hl 2 rfl) ?_
            refine lv_aload_n hx hb dX6_isTold_35 rfl (lv_at hl 0 rfl) ?_
            refine lv_iload_n hx hb dX6_isTold_36 rfl (lv_at hl 3 rfl) ?_
            refine wo_vI (As := [.int (nI i)]) (rest := [.int (mwc S i)]) (kX6_isWell l dC dI ca ad S (nI i)) ⟨hx, hb, hml, hown, hts⟩ (cwV 1 hts (wa_gV wd_655 wd_657 ws_13 wd_8 wd_658) rfl rfl rfl (by decide +kernel) ⟨Nat.le_of_ble_eq_true rfl, Nat.le_of_ble_eq_true rfl⟩) hK hw hA 0 rfl rfl rfl rfl hl.1 rfl (Nat.le_of_ble_eq_true rfl) dX6_isTold_37 ⟨Nat.zero_le _, Nat.zero_le _⟩ (fun r_8 S_8 H locs hp_8 hw => ?_)
            have e9 := hp_8.1.symm
            subst e9
            have e9 := hp_8.2.symm
            subst e9
            refine lv_if_eq (tgt := 47) hx hb dX6_isTold_40 (by decide) (fun c_9 => ?_) (fun c_9 => ?_)
            · skip
              have c_9 : mwl S (nI i) = false := nb_0 c_9
              exact absurd (c_4.symm.trans c_9) (by decide)
            · skip
              have c_9 : mwl S (nI i) = true := nb_1 c_9
              refine lv_iconst (v := nI 1) hx hb dX6_isTold_43 (by decide) ?_
              refine lv_goto (tgt := 48) hx hb dX6_isTold_44 (by decide) ?_
              refine lv_iadd hx hb dX6_isTold_48 ?_
              refine lv_istore_n (lv' := [(2, .int ((mwc S i) + (nI 1))), (0, .ref (ad 0)), (1, .int (nI ee)), (3, .int (nI i))]) hx hb dX6_isTold_49 rfl hl (by decide) rfl (fun ls hl => ?_)
              refine lv_iinc (v := nI (i + 1)) (lv' := [(3, .int (nI (i + 1))), (2, .int ((mwc S i) + (nI 1))), (0, .ref (ad 0)), (1, .int (nI ee))]) hx hb dX6_isTold_50 hl (k := 3) rfl (nI_inc _) (by decide) rfl (fun ls hl => ?_)
              refine lv_goto (tgt := 4) hx hb dX6_isTold_53 (by decide) ?_
              have e9 : (mwc S i) + (nI 1) = mwc S (i + 1) := by first | rfl | (simp only [mwc, c_1, c_4, c_7, c_9, decide_true, decide_false, Bool.not_true, Bool.not_false, Bool.true_and, Bool.and_true, Bool.false_and, Bool.and_false, Bool.or_true, Bool.true_or, Bool.or_false, Bool.false_or, Bool.false_eq_true, Bool.true_eq_false, if_true, if_false, ↓reduceIte]; done)
              try rw [e9] at hl
              exact ih_4 (i + 1) (by omega) (by omega) (by simp only [mta, hta, c_4, c_7, c_9, decide_true, decide_false, Bool.not_true, Bool.not_false, Bool.true_and, Bool.and_true, Bool.false_and, Bool.and_false, Bool.or_true, Bool.true_or, Bool.or_false, Bool.false_or, Bool.false_eq_true, Bool.true_eq_false, if_true, if_false, ↓reduceIte]) _ _ _ hw (lv_sub hl [2, 3, 1, 0] rfl)
          · skip
            refine lv_iconst (v := nI 0) hx hb dX6_isTold_32 (by decide) ?_
            exact ct_zret (S := S) (v := nI 0) hx hb hr hlocks hK (by first | decide | exact nb_z _) hw (⟨by rw [mtl_no (by omega) c_4 c_7]; rfl, rfl⟩) dX6_isTold_33
  have e9 : nI 0 = mwc S 0 := by first | rfl | (simp only [mwc, decide_true, decide_false, Bool.not_true, Bool.not_false, Bool.true_and, Bool.and_true, Bool.false_and, Bool.and_false, Bool.or_true, Bool.true_or, Bool.or_false, Bool.false_or, Bool.false_eq_true, Bool.true_eq_false, if_true, if_false, ↓reduceIte]; done)
  try rw [e9] at hl
  exact lp_4 7 0 (by omega) (by omega) rfl _ _ _ hw (lv_sub hl [2, 3, 1, 0] rfl)

set_option maxHeartbeats 4000000 in
set_option maxRecDepth 100000 in
theorem kX6_shares (l : Launch) (dC : Nat → ClassId) (dI : Nat → Nat → Nat) (ca : Nat → ClassId) (ad : Nat → Nat) (S : sSt) (bb : Nat) (sd : Nat) (b0 : Bool) (hb6 : bb < 6) (hs2 : sd < 2) : ct_L l yX6_shares (Cond.code yX6_shares cX6_shares 7 (some .long) :: wa_T) ({ frames := 2, cells := 0, slots := 0, locals := 46 } : Room) (dC, dI) vwCl (tyl ca) (wq ca ad) S [.ref (ad 0), .int (nI bb), .int (nI sd), .int (bI b0)] (fun r S2 => r = mshs S bb sd b0 6 ∧ S2 = S) := by
  refine ct_ofL (by decide) (Nat.le_of_ble_eq_true rfl) ?_
  intro p e s m below meth c A ls hx hb hr hml hts hown hlocks hK hA hw hl
  have hl : lv_has ls 7 [(0, .ref (ad 0)), (1, .int (nI bb)), (2, .int (nI sd)), (3, .int (bI b0))] := hl
  refine lv_lconst (v := 0) hx hb dX6_shares_0 (by decide) ?_
  refine lv_lstore (lv' := [(4, .long 0), (0, .ref (ad 0)), (1, .int (nI bb)), (2, .int (nI sd)), (3, .int (bI b0))]) hx hb dX6_shares_1 hl (by decide) rfl (fun ls hl => ?_)
  refine lv_iconst (v := nI 0) hx hb dX6_shares_3 (by decide) ?_
  refine lv_istore (lv' := [(6, .int (nI 0)), (4, .long 0), (0, .ref (ad 0)), (1, .int (nI bb)), (2, .int (nI sd)), (3, .int (bI b0))]) hx hb dX6_shares_4 hl (by decide) rfl (fun ls hl => ?_)
  have lp_6 : ∀ (n : Nat) (i : Nat), i ≤ 6 → 7 ≤ i + n → ∀ (H : Heap) (locs : List Loc) (ls : Array Slot), wo_w (dC, dI) vwCl A s.heap (wq ca ad S) H locs → lv_has ls 7 [(0, .ref (ad 0)), (1, .int (nI bb)), (2, .int (nI sd)), (3, .int (bI b0)), (4, .long (mshs S bb sd b0 i)), (6, .int (nI i))] → W p l e ({ frames := 2, cells := 0, slots := 0, locals := 46 } : Room) s m ([.ref (ad 0), .int (nI bb), .int (nI sd), .int (bI b0)] : List Value).toArray below meth c H locs 0 0 (MQ below (va_Ql (fun r S2 => r = mshs S bb sd b0 6 ∧ S2 = S) (ct_B (dC, dI) vwCl (tyl ca) (wq ca ad) A) A) ([.ref (ad 0), .int (nI bb), .int (nI sd), .int (bI b0)] : List Value).toArray s 0 0 A) (F0 m 6 ls []) := by
    intro n
    induction n with
    | zero =>
      intro i hi hn
      exfalso
      omega
    | succ n ih_6 =>
      intro i hi hn H locs ls hw hl
      refine lv_iload hx hb dX6_shares_6 (lv_at hl 5 rfl) ?_
      refine lv_bipush (v := nI 6) hx hb dX6_shares_8 (by decide) ?_
      refine lv_icmp_ge (tgt := 50) hx hb dX6_shares_10 (by decide) (fun c_1 => ?_) (fun c_1 => ?_)
      · skip
        have c_1 : 6 ≤ i := (nI_leI (a := 6) (b := i) (by omega) (by omega)).mp c_1
        obtain rfl : 6 = i := by omega
        refine lv_lload hx hb dX6_shares_50 (lv_at hl 4 rfl) ?_
        exact ct_lret (S := S) (v := mshs S bb sd b0 6) hx hb hr hlocks hK hw (⟨rfl, rfl⟩) dX6_shares_52
      · skip
        have c_1 : ¬ (6 ≤ i) := fun h9 => c_1 ((nI_leI (a := 6) (b := i) (by omega) (by omega)).mpr h9)
        refine lv_lload hx hb dX6_shares_13 (lv_at hl 4 rfl) ?_
        refine lv_aload_n hx hb dX6_shares_15 rfl (lv_at hl 0 rfl) ?_
        refine lv_iload hx hb dX6_shares_16 (lv_at hl 5 rfl) ?_
        refine wo_vI (As := [.int (nI i)]) (rest := [.long (mshs S bb sd b0 i)]) (kX6_isWell l dC dI ca ad S (nI i)) ⟨hx, hb, hml, hown, hts⟩ (cwV 1 hts (wa_gV wd_655 wd_657 ws_13 wd_8 wd_658) rfl rfl rfl (by decide +kernel) ⟨Nat.le_of_ble_eq_true rfl, Nat.le_of_ble_eq_true rfl⟩) hK hw hA 0 rfl rfl rfl rfl hl.1 rfl (Nat.le_of_ble_eq_true rfl) dX6_shares_18 ⟨Nat.zero_le _, Nat.zero_le _⟩ (fun r_2 S_2 H locs hp_2 hw => ?_)
        have e9 := hp_2.1.symm
        subst e9
        have e9 := hp_2.2.symm
        subst e9
        refine lv_iload_n hx hb dX6_shares_21 rfl (lv_at hl 3 rfl) ?_
        refine lv_icmp_ne (tgt := 40) hx hb dX6_shares_22 (by decide) (fun c_3 => ?_) (fun c_3 => ?_)
        · skip
          have c_3 : ¬ (mwl S (nI i) = b0) := fun h9 => c_3 (bI_eq.mpr h9)
          refine lv_lconst (v := 0) hx hb dX6_shares_40 (by decide) ?_
          refine lv_ladd hx hb dX6_shares_41 ?_
          refine lv_lstore (lv' := [(4, .long ((mshs S bb sd b0 i) + 0)), (0, .ref (ad 0)), (1, .int (nI bb)), (2, .int (nI sd)), (3, .int (bI b0)), (6, .int (nI i))]) hx hb dX6_shares_42 hl (by decide) rfl (fun ls hl => ?_)
          refine lv_iinc (v := nI (i + 1)) (lv' := [(6, .int (nI (i + 1))), (4, .long ((mshs S bb sd b0 i) + 0)), (0, .ref (ad 0)), (1, .int (nI bb)), (2, .int (nI sd)), (3, .int (bI b0))]) hx hb dX6_shares_44 hl (k := 5) rfl (nI_inc _) (by decide) rfl (fun ls hl => ?_)
          refine lv_goto (tgt := 6) hx hb dX6_shares_47 (by decide) ?_
          have e9 : (mshs S bb sd b0 i) + 0 = mshs S bb sd b0 (i + 1) := by first | rfl | (simp only [mshs, c_1, c_3, decide_true, decide_false, Bool.not_true, Bool.not_false, Bool.true_and, Bool.and_true, Bool.false_and, Bool.and_false, Bool.or_true, Bool.true_or, Bool.or_false, Bool.false_or, Bool.false_eq_true, Bool.true_eq_false, if_true, if_false, ↓reduceIte]; done)
          try rw [e9] at hl
          exact ih_6 (i + 1) (by omega) (by omega) _ _ _ hw (lv_sub hl [2, 3, 4, 5, 1, 0] rfl)
        · skip
          have c_3 : mwl S (nI i) = b0 := bI_eq.mp c_3
          refine lv_aload_n hx hb dX6_shares_25 rfl (lv_at hl 0 rfl) ?_
          refine wo_get hx hb hts inX6 hown hK hw 0 rfl rfl 5 (by decide) (hts _ wd_570) (fun _ h9 => h9) rfl dX6_shares_26 ?_
          refine lv_iload_n hx hb dX6_shares_29 rfl (lv_at hl 1 rfl) ?_
          refine lv_iload_n hx hb dX6_shares_30 rfl (lv_at hl 2 rfl) ?_
          refine lv_iload hx hb dX6_shares_31 (lv_at hl 5 rfl) ?_
          refine wo_sI (As := [.int (nI bb), .int (nI sd), .int (nI i)]) (rest := [.ref (ad 4), .long (mshs S bb sd b0 i)]) (kX6_at l dC dI ca ad S bb sd i) ⟨hx, hb, hml, hown, hts⟩ (va_cwS 3 hts (wa_gS wd_680 wd_681 wd_8 wd_682) rfl rfl rfl (by decide +kernel) ⟨Nat.le_of_ble_eq_true rfl, Nat.le_of_ble_eq_true rfl⟩) hK hw hA rfl hl.1 rfl (Nat.le_of_ble_eq_true rfl) dX6_shares_33 ⟨Nat.zero_le _, Nat.zero_le _⟩ (fun r_4 S_4 H locs hp_4 hw => ?_)
          have e9 := hp_4.1.symm
          subst e9
          have e9 := hp_4.2.symm
          subst e9
          refine wo_lald hx hb hK hw 4 1 rfl rfl (12 * bb + 6 * sd + i) rfl (by first | assumption | omega) (by decide) dX6_shares_36 ?_
          refine lv_goto (tgt := 41) hx hb dX6_shares_37 (by decide) ?_
          refine lv_ladd hx hb dX6_shares_41 ?_
          refine lv_lstore (lv' := [(4, .long ((mshs S bb sd b0 i) + (S.2 4 (12 * bb + 6 * sd + i)))), (0, .ref (ad 0)), (1, .int (nI bb)), (2, .int (nI sd)), (3, .int (bI b0)), (6, .int (nI i))]) hx hb dX6_shares_42 hl (by decide) rfl (fun ls hl => ?_)
          refine lv_iinc (v := nI (i + 1)) (lv' := [(6, .int (nI (i + 1))), (4, .long ((mshs S bb sd b0 i) + (S.2 4 (12 * bb + 6 * sd + i)))), (0, .ref (ad 0)), (1, .int (nI bb)), (2, .int (nI sd)), (3, .int (bI b0))]) hx hb dX6_shares_44 hl (k := 5) rfl (nI_inc _) (by decide) rfl (fun ls hl => ?_)
          refine lv_goto (tgt := 6) hx hb dX6_shares_47 (by decide) ?_
          have e9 : (mshs S bb sd b0 i) + (S.2 4 (12 * bb + 6 * sd + i)) = mshs S bb sd b0 (i + 1) := by first | rfl | (simp only [mshs, c_1, c_3, decide_true, decide_false, Bool.not_true, Bool.not_false, Bool.true_and, Bool.and_true, Bool.false_and, Bool.and_false, Bool.or_true, Bool.true_or, Bool.or_false, Bool.false_or, Bool.false_eq_true, Bool.true_eq_false, if_true, if_false, ↓reduceIte]; done)
          try rw [e9] at hl
          exact ih_6 (i + 1) (by omega) (by omega) _ _ _ hw (lv_sub hl [2, 3, 4, 5, 1, 0] rfl)
  have e9 : 0 = mshs S bb sd b0 0 := by first | rfl | (simp only [mshs, decide_true, decide_false, Bool.not_true, Bool.not_false, Bool.true_and, Bool.and_true, Bool.false_and, Bool.and_false, Bool.or_true, Bool.true_or, Bool.or_false, Bool.false_or, Bool.false_eq_true, Bool.true_eq_false, if_true, if_false, ↓reduceIte]; done)
  try rw [e9] at hl
  exact lp_6 7 0 (by omega) (by omega) _ _ _ hw (lv_sub hl [2, 3, 4, 5, 1, 0] rfl)

set_option maxHeartbeats 4000000 in
set_option maxRecDepth 100000 in
theorem kX6_inRows (l : Launch) (dC : Nat → ClassId) (dI : Nat → Nat → Nat) (ca : Nat → ClassId) (ad : Nat → Nat) (S : sSt) (bb : Nat) (sd : Nat) (b0 : Bool) (nr : Nat) (hr2 : nr ≤ 200) (hcnt : S.1 0 13 = nI nr) : ct_L l yX6_inRows (Cond.code yX6_inRows cX6_inRows 8 (some .long) :: wa_T) ({ frames := 2, cells := 0, slots := 0, locals := 46 } : Room) (dC, dI) vwCl (tyl ca) (wq ca ad) S [.ref (ad 0), .int (nI bb), .int (nI sd), .int (bI b0)] (fun r S2 => r = minr S bb sd b0 nr ∧ S2 = S) := by
  refine ct_ofL (by decide) (Nat.le_of_ble_eq_true rfl) ?_
  intro p e s m below meth c A ls hx hb hr hml hts hown hlocks hK hA hw hl
  have hl : lv_has ls 8 [(0, .ref (ad 0)), (1, .int (nI bb)), (2, .int (nI sd)), (3, .int (bI b0))] := hl
  refine lv_lconst (v := 0) hx hb dX6_inRows_0 (by decide) ?_
  refine lv_lstore (lv' := [(4, .long 0), (0, .ref (ad 0)), (1, .int (nI bb)), (2, .int (nI sd)), (3, .int (bI b0))]) hx hb dX6_inRows_1 hl (by decide) rfl (fun ls hl => ?_)
  refine lv_iconst (v := nI 1) hx hb dX6_inRows_3 (by decide) ?_
  refine lv_istore (lv' := [(6, .int (nI 1)), (4, .long 0), (0, .ref (ad 0)), (1, .int (nI bb)), (2, .int (nI sd)), (3, .int (bI b0))]) hx hb dX6_inRows_4 hl (by decide) rfl (fun ls hl => ?_)
  have lp_6 : ∀ (n : Nat) (i : Nat), i ≤ nr → nr + 1 ≤ i + n → ∀ (H : Heap) (locs : List Loc) (ls : Array Slot), wo_w (dC, dI) vwCl A s.heap (wq ca ad S) H locs → lv_has ls 8 [(0, .ref (ad 0)), (1, .int (nI bb)), (2, .int (nI sd)), (3, .int (bI b0)), (4, .long (minr S bb sd b0 i)), (6, .int (nI (i + 1)))] → W p l e ({ frames := 2, cells := 0, slots := 0, locals := 46 } : Room) s m ([.ref (ad 0), .int (nI bb), .int (nI sd), .int (bI b0)] : List Value).toArray below meth c H locs 0 0 (MQ below (va_Ql (fun r S2 => r = minr S bb sd b0 nr ∧ S2 = S) (ct_B (dC, dI) vwCl (tyl ca) (wq ca ad) A) A) ([.ref (ad 0), .int (nI bb), .int (nI sd), .int (bI b0)] : List Value).toArray s 0 0 A) (F0 m 6 ls []) := by
    intro n
    induction n with
    | zero =>
      intro i hi hn
      exfalso
      omega
    | succ n ih_6 =>
      intro i hi hn H locs ls hw hl
      refine lv_iload hx hb dX6_inRows_6 (lv_at hl 5 rfl) ?_
      refine lv_aload_n hx hb dX6_inRows_8 rfl (lv_at hl 0 rfl) ?_
      refine wo_get hx hb hts inX6 hown hK hw 0 rfl rfl 13 (by decide) (hts _ wd_578) (fun _ h9 => h9) rfl dX6_inRows_9 ?_
      refine tp_i (y := nI nr) (hcnt) ?_
      refine lv_icmp_gt (tgt := 121) hx hb dX6_inRows_12 (by decide) (fun c_1 => ?_) (fun c_1 => ?_)
      · skip
        have c_1 : nr < (i + 1) := (nI_ltI (a := nr) (b := i + 1) (by omega) (by omega)).mp c_1
        obtain rfl : nr = i := by omega
        refine lv_lload hx hb dX6_inRows_121 (lv_at hl 4 rfl) ?_
        exact ct_lret (S := S) (v := minr S bb sd b0 nr) hx hb hr hlocks hK hw (⟨rfl, rfl⟩) dX6_inRows_123
      · skip
        have c_1 : ¬ (nr < (i + 1)) := fun h9 => c_1 ((nI_ltI (a := nr) (b := i + 1) (by omega) (by omega)).mpr h9)
        refine lv_aload_n hx hb dX6_inRows_15 rfl (lv_at hl 0 rfl) ?_
        refine wo_get hx hb hts inX6 hown hK hw 0 rfl rfl 14 (by decide) (hts _ wd_579) (fun _ h9 => h9) rfl dX6_inRows_16 ?_
        refine lv_iload hx hb dX6_inRows_19 (lv_at hl 5 rfl) ?_
        refine wo_iald hx hb hK hw 12 0 rfl rfl (i + 1) rfl (by first | assumption | omega) (by decide) dX6_inRows_21 ?_
        refine lv_iload_n hx hb dX6_inRows_22 rfl (lv_at hl 1 rfl) ?_
        refine lv_icmp_ne (tgt := 115) hx hb dX6_inRows_23 (by decide) (fun c_2 => ?_) (fun c_2 => ?_)
        · skip
          refine lv_iinc (v := nI ((i + 1) + 1)) (lv' := [(6, .int (nI ((i + 1) + 1))), (0, .ref (ad 0)), (1, .int (nI bb)), (2, .int (nI sd)), (3, .int (bI b0)), (4, .long (minr S bb sd b0 i))]) hx hb dX6_inRows_115 hl (k := 5) rfl (nI_inc _) (by decide) rfl (fun ls hl => ?_)
          refine lv_goto (tgt := 6) hx hb dX6_inRows_118 (by decide) ?_
          have e9 : minr S bb sd b0 i = minr S bb sd b0 (i + 1) := by first | rfl | (simp only [minr, nI_21, c_1, c_2, decide_true, decide_false, Bool.not_true, Bool.not_false, Bool.true_and, Bool.and_true, Bool.false_and, Bool.and_false, Bool.or_true, Bool.true_or, Bool.or_false, Bool.false_or, Bool.false_eq_true, Bool.true_eq_false, if_true, if_false, ↓reduceIte]; done)
          try rw [e9] at hl
          exact ih_6 (i + 1) (by omega) (by omega) _ _ _ hw (lv_sub hl [1, 2, 3, 4, 5, 0] rfl)
        · skip
          refine lv_aload_n hx hb dX6_inRows_26 rfl (lv_at hl 0 rfl) ?_
          refine wo_get hx hb hts inX6 hown hK hw 0 rfl rfl 15 (by decide) (hts _ wd_580) (fun _ h9 => h9) rfl dX6_inRows_27 ?_
          refine lv_iload hx hb dX6_inRows_30 (lv_at hl 5 rfl) ?_
          refine wo_iald hx hb hK hw 13 0 rfl rfl (i + 1) rfl (by first | assumption | omega) (by decide) dX6_inRows_32 ?_
          refine lv_iload_n hx hb dX6_inRows_33 rfl (lv_at hl 2 rfl) ?_
          refine lv_icmp_ne (tgt := 115) hx hb dX6_inRows_34 (by decide) (fun c_3 => ?_) (fun c_3 => ?_)
          · skip
            refine lv_iinc (v := nI ((i + 1) + 1)) (lv' := [(6, .int (nI ((i + 1) + 1))), (0, .ref (ad 0)), (1, .int (nI bb)), (2, .int (nI sd)), (3, .int (bI b0)), (4, .long (minr S bb sd b0 i))]) hx hb dX6_inRows_115 hl (k := 5) rfl (nI_inc _) (by decide) rfl (fun ls hl => ?_)
            refine lv_goto (tgt := 6) hx hb dX6_inRows_118 (by decide) ?_
            have e9 : minr S bb sd b0 i = minr S bb sd b0 (i + 1) := by first | rfl | (simp only [minr, nI_21, c_1, c_2, c_3, decide_true, decide_false, Bool.not_true, Bool.not_false, Bool.true_and, Bool.and_true, Bool.false_and, Bool.and_false, Bool.or_true, Bool.true_or, Bool.or_false, Bool.false_or, Bool.false_eq_true, Bool.true_eq_false, if_true, if_false, ↓reduceIte]; done)
            try rw [e9] at hl
            exact ih_6 (i + 1) (by omega) (by omega) _ _ _ hw (lv_sub hl [1, 2, 3, 4, 5, 0] rfl)
          · skip
            refine lv_aload_n hx hb dX6_inRows_37 rfl (lv_at hl 0 rfl) ?_
            refine wo_get hx hb hts inX6 hown hK hw 0 rfl rfl 19 (by decide) (hts _ wd_584) (fun _ h9 => h9) rfl dX6_inRows_38 ?_
            refine lv_iload hx hb dX6_inRows_41 (lv_at hl 5 rfl) ?_
            refine wo_iald hx hb hK hw 17 0 rfl rfl (i + 1) rfl (by first | assumption | omega) (by decide) dX6_inRows_43 ?_
            refine lv_iconst (v := nI 1) hx hb dX6_inRows_44 (by decide) ?_
            refine lv_icmp_eq (tgt := 115) hx hb dX6_inRows_45 (by decide) (fun c_4 => ?_) (fun c_4 => ?_)
            · skip
              refine lv_iinc (v := nI ((i + 1) + 1)) (lv' := [(6, .int (nI ((i + 1) + 1))), (0, .ref (ad 0)), (1, .int (nI bb)), (2, .int (nI sd)), (3, .int (bI b0)), (4, .long (minr S bb sd b0 i))]) hx hb dX6_inRows_115 hl (k := 5) rfl (nI_inc _) (by decide) rfl (fun ls hl => ?_)
              refine lv_goto (tgt := 6) hx hb dX6_inRows_118 (by decide) ?_
              have e9 : minr S bb sd b0 i = minr S bb sd b0 (i + 1) := by first | rfl | (simp only [minr, nI_21, c_1, c_2, c_3, c_4, decide_true, decide_false, Bool.not_true, Bool.not_false, Bool.true_and, Bool.and_true, Bool.false_and, Bool.and_false, Bool.or_true, Bool.true_or, Bool.or_false, Bool.false_or, Bool.false_eq_true, Bool.true_eq_false, if_true, if_false, ↓reduceIte]; done)
              try rw [e9] at hl
              exact ih_6 (i + 1) (by omega) (by omega) _ _ _ hw (lv_sub hl [1, 2, 3, 4, 5, 0] rfl)
            · skip
              refine lv_aload_n hx hb dX6_inRows_48 rfl (lv_at hl 0 rfl) ?_
              refine wo_get hx hb hts inX6 hown hK hw 0 rfl rfl 21 (by decide) (hts _ wd_586) (fun _ h9 => h9) rfl dX6_inRows_49 ?_
              refine lv_iload hx hb dX6_inRows_52 (lv_at hl 5 rfl) ?_
              refine wo_zald hx hb hK hw 19 2 rfl rfl (i + 1) rfl (by first | assumption | omega) (by decide) dX6_inRows_54 ?_
              refine lv_if_eq (tgt := 61) hx hb dX6_inRows_55 (by decide) (fun c_5 => ?_) (fun c_5 => ?_)
              · skip
                refine lv_aload_n hx hb dX6_inRows_61 rfl (lv_at hl 0 rfl) ?_
                refine wo_get hx hb hts inX6 hown hK hw 0 rfl rfl 19 (by decide) (hts _ wd_584) (fun _ h9 => h9) rfl dX6_inRows_62 ?_
                refine lv_iload hx hb dX6_inRows_65 (lv_at hl 5 rfl) ?_
                refine wo_iald hx hb hK hw 17 0 rfl rfl (i + 1) rfl (by first | assumption | omega) (by decide) dX6_inRows_67 ?_
                refine lv_iconst (v := nI 2) hx hb dX6_inRows_68 (by decide) ?_
                refine lv_icmp_eq (tgt := 86) hx hb dX6_inRows_69 (by decide) (fun c_6 => ?_) (fun c_6 => ?_)
                · skip
                  refine lv_iconst (v := nI 1) hx hb dX6_inRows_86 (by decide) ?_
                  refine lv_goto (tgt := 91) hx hb dX6_inRows_87 (by decide) ?_
                  have hst : mstk S (i + 1) = true := by simp only [mstk, c_1, c_2, c_3, c_4, c_5, c_6, decide_true, decide_false, Bool.not_true, Bool.not_false, Bool.true_and, Bool.and_true, Bool.false_and, Bool.and_false, Bool.or_true, Bool.true_or, Bool.or_false, Bool.false_or, Bool.false_eq_true, Bool.true_eq_false, if_true, if_false, ↓reduceIte]
                  refine tp_i (y := bI (mstk S (i + 1))) (by rw [hst]; rfl) ?_
                  refine lv_istore (lv' := [(7, .int (bI (mstk S (i + 1)))), (0, .ref (ad 0)), (1, .int (nI bb)), (2, .int (nI sd)), (3, .int (bI b0)), (4, .long (minr S bb sd b0 i)), (6, .int (nI (i + 1)))]) hx hb dX6_inRows_91 hl (by decide) rfl (fun ls hl => ?_)
                  refine lv_lload hx hb dX6_inRows_93 (lv_at hl 5 rfl) ?_
                  refine lv_iload hx hb dX6_inRows_95 (lv_at hl 0 rfl) ?_
                  refine lv_iload_n hx hb dX6_inRows_97 rfl (lv_at hl 4 rfl) ?_
                  refine lv_icmp_ne (tgt := 111) hx hb dX6_inRows_98 (by decide) (fun c_7 => ?_) (fun c_7 => ?_)
                  · skip
                    have c_7 : ¬ (mstk S (i + 1) = b0) := fun h9 => c_7 (bI_eq.mpr h9)
                    refine lv_lconst (v := 0) hx hb dX6_inRows_111 (by decide) ?_
                    refine lv_ladd hx hb dX6_inRows_112 ?_
                    refine lv_lstore (lv' := [(4, .long ((minr S bb sd b0 i) + 0)), (7, .int (bI (mstk S (i + 1)))), (0, .ref (ad 0)), (1, .int (nI bb)), (2, .int (nI sd)), (3, .int (bI b0)), (6, .int (nI (i + 1)))]) hx hb dX6_inRows_113 hl (by decide) rfl (fun ls hl => ?_)
                    refine lv_iinc (v := nI ((i + 1) + 1)) (lv' := [(6, .int (nI ((i + 1) + 1))), (4, .long ((minr S bb sd b0 i) + 0)), (7, .int (bI (mstk S (i + 1)))), (0, .ref (ad 0)), (1, .int (nI bb)), (2, .int (nI sd)), (3, .int (bI b0))]) hx hb dX6_inRows_115 hl (k := 6) rfl (nI_inc _) (by decide) rfl (fun ls hl => ?_)
                    refine lv_goto (tgt := 6) hx hb dX6_inRows_118 (by decide) ?_
                    have e9 : (minr S bb sd b0 i) + 0 = minr S bb sd b0 (i + 1) := by first | rfl | (simp only [minr, nI_21, c_1, c_2, c_3, c_4, c_5, c_6, c_7, decide_true, decide_false, Bool.not_true, Bool.not_false, Bool.true_and, Bool.and_true, Bool.false_and, Bool.and_false, Bool.or_true, Bool.true_or, Bool.or_false, Bool.false_or, Bool.false_eq_true, Bool.true_eq_false, if_true, if_false, ↓reduceIte]; done)
                    try rw [e9] at hl
                    exact ih_6 (i + 1) (by omega) (by omega) _ _ _ hw (lv_sub hl [3, 4, 5, 6, 1, 0] rfl)
                  · skip
                    have c_7 : mstk S (i + 1) = b0 := bI_eq.mp c_7
                    refine lv_aload_n hx hb dX6_inRows_101 rfl (lv_at hl 1 rfl) ?_
                    refine wo_get hx hb hts inX6 hown hK hw 0 rfl rfl 18 (by decide) (hts _ wd_583) (fun _ h9 => h9) rfl dX6_inRows_102 ?_
                    refine lv_iload hx hb dX6_inRows_105 (lv_at hl 6 rfl) ?_
                    refine wo_lald hx hb hK hw 16 1 rfl rfl (i + 1) rfl (by first | assumption | omega) (by decide) dX6_inRows_107 ?_
                    refine lv_goto (tgt := 112) hx hb dX6_inRows_108 (by decide) ?_
                    refine lv_ladd hx hb dX6_inRows_112 ?_
                    refine lv_lstore (lv' := [(4, .long ((minr S bb sd b0 i) + (S.2 16 (i + 1)))), (7, .int (bI (mstk S (i + 1)))), (0, .ref (ad 0)), (1, .int (nI bb)), (2, .int (nI sd)), (3, .int (bI b0)), (6, .int (nI (i + 1)))]) hx hb dX6_inRows_113 hl (by decide) rfl (fun ls hl => ?_)
                    refine lv_iinc (v := nI ((i + 1) + 1)) (lv' := [(6, .int (nI ((i + 1) + 1))), (4, .long ((minr S bb sd b0 i) + (S.2 16 (i + 1)))), (7, .int (bI (mstk S (i + 1)))), (0, .ref (ad 0)), (1, .int (nI bb)), (2, .int (nI sd)), (3, .int (bI b0))]) hx hb dX6_inRows_115 hl (k := 6) rfl (nI_inc _) (by decide) rfl (fun ls hl => ?_)
                    refine lv_goto (tgt := 6) hx hb dX6_inRows_118 (by decide) ?_
                    have e9 : (minr S bb sd b0 i) + (S.2 16 (i + 1)) = minr S bb sd b0 (i + 1) := by first | rfl | (simp only [minr, nI_21, c_1, c_2, c_3, c_4, c_5, c_6, c_7, decide_true, decide_false, Bool.not_true, Bool.not_false, Bool.true_and, Bool.and_true, Bool.false_and, Bool.and_false, Bool.or_true, Bool.true_or, Bool.or_false, Bool.false_or, Bool.false_eq_true, Bool.true_eq_false, if_true, if_false, ↓reduceIte]; done)
                    try rw [e9] at hl
                    exact ih_6 (i + 1) (by omega) (by omega) _ _ _ hw (lv_sub hl [3, 4, 5, 6, 1, 0] rfl)
                · skip
                  refine lv_aload_n hx hb dX6_inRows_72 rfl (lv_at hl 0 rfl) ?_
                  refine lv_aload_n hx hb dX6_inRows_73 rfl (lv_at hl 0 rfl) ?_
                  refine wo_get hx hb hts inX6 hown hK hw 0 rfl rfl 17 (by decide) (hts _ wd_582) (fun _ h9 => h9) rfl dX6_inRows_74 ?_
                  refine lv_iload hx hb dX6_inRows_77 (lv_at hl 5 rfl) ?_
                  refine wo_iald hx hb hK hw 15 0 rfl rfl (i + 1) rfl (by first | assumption | omega) (by decide) dX6_inRows_79 ?_
                  refine wo_vI (As := [.int (S.1 15 (i + 1))]) (rest := []) (kX6_isWell l dC dI ca ad S (S.1 15 (i + 1))) ⟨hx, hb, hml, hown, hts⟩ (cwV 1 hts (wa_gV wd_655 wd_657 ws_13 wd_8 wd_658) rfl rfl rfl (by decide +kernel) ⟨Nat.le_of_ble_eq_true rfl, Nat.le_of_ble_eq_true rfl⟩) hK hw hA 0 rfl rfl rfl rfl hl.1 rfl (Nat.le_of_ble_eq_true rfl) dX6_inRows_80 ⟨Nat.zero_le _, Nat.zero_le _⟩ (fun r_8 S_8 H locs hp_8 hw => ?_)
                  have e9 := hp_8.1.symm
                  subst e9
                  have e9 := hp_8.2.symm
                  subst e9
                  refine lv_if_ne (tgt := 90) hx hb dX6_inRows_83 (by decide) (fun c_9 => ?_) (fun c_9 => ?_)
                  · skip
                    have c_9 : mwl S (S.1 15 (i + 1)) = true := nb_1 c_9
                    refine lv_iconst (v := nI 0) hx hb dX6_inRows_90 (by decide) ?_
                    have hst : mstk S (i + 1) = false := by simp only [mstk, c_1, c_2, c_3, c_4, c_5, c_6, c_9, decide_true, decide_false, Bool.not_true, Bool.not_false, Bool.true_and, Bool.and_true, Bool.false_and, Bool.and_false, Bool.or_true, Bool.true_or, Bool.or_false, Bool.false_or, Bool.false_eq_true, Bool.true_eq_false, if_true, if_false, ↓reduceIte]
                    refine tp_i (y := bI (mstk S (i + 1))) (by rw [hst]; rfl) ?_
                    refine lv_istore (lv' := [(7, .int (bI (mstk S (i + 1)))), (0, .ref (ad 0)), (1, .int (nI bb)), (2, .int (nI sd)), (3, .int (bI b0)), (4, .long (minr S bb sd b0 i)), (6, .int (nI (i + 1)))]) hx hb dX6_inRows_91 hl (by decide) rfl (fun ls hl => ?_)
                    refine lv_lload hx hb dX6_inRows_93 (lv_at hl 5 rfl) ?_
                    refine lv_iload hx hb dX6_inRows_95 (lv_at hl 0 rfl) ?_
                    refine lv_iload_n hx hb dX6_inRows_97 rfl (lv_at hl 4 rfl) ?_
                    refine lv_icmp_ne (tgt := 111) hx hb dX6_inRows_98 (by decide) (fun c_10 => ?_) (fun c_10 => ?_)
                    · skip
                      have c_10 : ¬ (mstk S (i + 1) = b0) := fun h9 => c_10 (bI_eq.mpr h9)
                      refine lv_lconst (v := 0) hx hb dX6_inRows_111 (by decide) ?_
                      refine lv_ladd hx hb dX6_inRows_112 ?_
                      refine lv_lstore (lv' := [(4, .long ((minr S bb sd b0 i) + 0)), (7, .int (bI (mstk S (i + 1)))), (0, .ref (ad 0)), (1, .int (nI bb)), (2, .int (nI sd)), (3, .int (bI b0)), (6, .int (nI (i + 1)))]) hx hb dX6_inRows_113 hl (by decide) rfl (fun ls hl => ?_)
                      refine lv_iinc (v := nI ((i + 1) + 1)) (lv' := [(6, .int (nI ((i + 1) + 1))), (4, .long ((minr S bb sd b0 i) + 0)), (7, .int (bI (mstk S (i + 1)))), (0, .ref (ad 0)), (1, .int (nI bb)), (2, .int (nI sd)), (3, .int (bI b0))]) hx hb dX6_inRows_115 hl (k := 6) rfl (nI_inc _) (by decide) rfl (fun ls hl => ?_)
                      refine lv_goto (tgt := 6) hx hb dX6_inRows_118 (by decide) ?_
                      have e9 : (minr S bb sd b0 i) + 0 = minr S bb sd b0 (i + 1) := by first | rfl | (simp only [minr, nI_21, c_1, c_2, c_3, c_4, c_5, c_6, c_9, c_10, decide_true, decide_false, Bool.not_true, Bool.not_false, Bool.true_and, Bool.and_true, Bool.false_and, Bool.and_false, Bool.or_true, Bool.true_or, Bool.or_false, Bool.false_or, Bool.false_eq_true, Bool.true_eq_false, if_true, if_false, ↓reduceIte]; done)
                      try rw [e9] at hl
                      exact ih_6 (i + 1) (by omega) (by omega) _ _ _ hw (lv_sub hl [3, 4, 5, 6, 1, 0] rfl)
                    · skip
                      have c_10 : mstk S (i + 1) = b0 := bI_eq.mp c_10
                      refine lv_aload_n hx hb dX6_inRows_101 rfl (lv_at hl 1 rfl) ?_
                      refine wo_get hx hb hts inX6 hown hK hw 0 rfl rfl 18 (by decide) (hts _ wd_583) (fun _ h9 => h9) rfl dX6_inRows_102 ?_
                      refine lv_iload hx hb dX6_inRows_105 (lv_at hl 6 rfl) ?_
                      refine wo_lald hx hb hK hw 16 1 rfl rfl (i + 1) rfl (by first | assumption | omega) (by decide) dX6_inRows_107 ?_
                      refine lv_goto (tgt := 112) hx hb dX6_inRows_108 (by decide) ?_
                      refine lv_ladd hx hb dX6_inRows_112 ?_
                      refine lv_lstore (lv' := [(4, .long ((minr S bb sd b0 i) + (S.2 16 (i + 1)))), (7, .int (bI (mstk S (i + 1)))), (0, .ref (ad 0)), (1, .int (nI bb)), (2, .int (nI sd)), (3, .int (bI b0)), (6, .int (nI (i + 1)))]) hx hb dX6_inRows_113 hl (by decide) rfl (fun ls hl => ?_)
                      refine lv_iinc (v := nI ((i + 1) + 1)) (lv' := [(6, .int (nI ((i + 1) + 1))), (4, .long ((minr S bb sd b0 i) + (S.2 16 (i + 1)))), (7, .int (bI (mstk S (i + 1)))), (0, .ref (ad 0)), (1, .int (nI bb)), (2, .int (nI sd)), (3, .int (bI b0))]) hx hb dX6_inRows_115 hl (k := 6) rfl (nI_inc _) (by decide) rfl (fun ls hl => ?_)
                      refine lv_goto (tgt := 6) hx hb dX6_inRows_118 (by decide) ?_
                      have e9 : (minr S bb sd b0 i) + (S.2 16 (i + 1)) = minr S bb sd b0 (i + 1) := by first | rfl | (simp only [minr, nI_21, c_1, c_2, c_3, c_4, c_5, c_6, c_9, c_10, decide_true, decide_false, Bool.not_true, Bool.not_false, Bool.true_and, Bool.and_true, Bool.false_and, Bool.and_false, Bool.or_true, Bool.true_or, Bool.or_false, Bool.false_or, Bool.false_eq_true, Bool.true_eq_false, if_true, if_false, ↓reduceIte]; done)
                      try rw [e9] at hl
                      exact ih_6 (i + 1) (by omega) (by omega) _ _ _ hw (lv_sub hl [3, 4, 5, 6, 1, 0] rfl)
                  · skip
                    have c_9 : mwl S (S.1 15 (i + 1)) = false := nb_0 c_9
                    refine lv_iconst (v := nI 1) hx hb dX6_inRows_86 (by decide) ?_
                    refine lv_goto (tgt := 91) hx hb dX6_inRows_87 (by decide) ?_
                    have hst : mstk S (i + 1) = true := by simp only [mstk, c_1, c_2, c_3, c_4, c_5, c_6, c_9, decide_true, decide_false, Bool.not_true, Bool.not_false, Bool.true_and, Bool.and_true, Bool.false_and, Bool.and_false, Bool.or_true, Bool.true_or, Bool.or_false, Bool.false_or, Bool.false_eq_true, Bool.true_eq_false, if_true, if_false, ↓reduceIte]
                    refine tp_i (y := bI (mstk S (i + 1))) (by rw [hst]; rfl) ?_
                    refine lv_istore (lv' := [(7, .int (bI (mstk S (i + 1)))), (0, .ref (ad 0)), (1, .int (nI bb)), (2, .int (nI sd)), (3, .int (bI b0)), (4, .long (minr S bb sd b0 i)), (6, .int (nI (i + 1)))]) hx hb dX6_inRows_91 hl (by decide) rfl (fun ls hl => ?_)
                    refine lv_lload hx hb dX6_inRows_93 (lv_at hl 5 rfl) ?_
                    refine lv_iload hx hb dX6_inRows_95 (lv_at hl 0 rfl) ?_
                    refine lv_iload_n hx hb dX6_inRows_97 rfl (lv_at hl 4 rfl) ?_
                    refine lv_icmp_ne (tgt := 111) hx hb dX6_inRows_98 (by decide) (fun c_11 => ?_) (fun c_11 => ?_)
                    · skip
                      have c_11 : ¬ (mstk S (i + 1) = b0) := fun h9 => c_11 (bI_eq.mpr h9)
                      refine lv_lconst (v := 0) hx hb dX6_inRows_111 (by decide) ?_
                      refine lv_ladd hx hb dX6_inRows_112 ?_
                      refine lv_lstore (lv' := [(4, .long ((minr S bb sd b0 i) + 0)), (7, .int (bI (mstk S (i + 1)))), (0, .ref (ad 0)), (1, .int (nI bb)), (2, .int (nI sd)), (3, .int (bI b0)), (6, .int (nI (i + 1)))]) hx hb dX6_inRows_113 hl (by decide) rfl (fun ls hl => ?_)
                      refine lv_iinc (v := nI ((i + 1) + 1)) (lv' := [(6, .int (nI ((i + 1) + 1))), (4, .long ((minr S bb sd b0 i) + 0)), (7, .int (bI (mstk S (i + 1)))), (0, .ref (ad 0)), (1, .int (nI bb)), (2, .int (nI sd)), (3, .int (bI b0))]) hx hb dX6_inRows_115 hl (k := 6) rfl (nI_inc _) (by decide) rfl (fun ls hl => ?_)
                      refine lv_goto (tgt := 6) hx hb dX6_inRows_118 (by decide) ?_
                      have e9 : (minr S bb sd b0 i) + 0 = minr S bb sd b0 (i + 1) := by first | rfl | (simp only [minr, nI_21, c_1, c_2, c_3, c_4, c_5, c_6, c_9, c_11, decide_true, decide_false, Bool.not_true, Bool.not_false, Bool.true_and, Bool.and_true, Bool.false_and, Bool.and_false, Bool.or_true, Bool.true_or, Bool.or_false, Bool.false_or, Bool.false_eq_true, Bool.true_eq_false, if_true, if_false, ↓reduceIte]; done)
                      try rw [e9] at hl
                      exact ih_6 (i + 1) (by omega) (by omega) _ _ _ hw (lv_sub hl [3, 4, 5, 6, 1, 0] rfl)
                    · skip
                      have c_11 : mstk S (i + 1) = b0 := bI_eq.mp c_11
                      refine lv_aload_n hx hb dX6_inRows_101 rfl (lv_at hl 1 rfl) ?_
                      refine wo_get hx hb hts inX6 hown hK hw 0 rfl rfl 18 (by decide) (hts _ wd_583) (fun _ h9 => h9) rfl dX6_inRows_102 ?_
                      refine lv_iload hx hb dX6_inRows_105 (lv_at hl 6 rfl) ?_
                      refine wo_lald hx hb hK hw 16 1 rfl rfl (i + 1) rfl (by first | assumption | omega) (by decide) dX6_inRows_107 ?_
                      refine lv_goto (tgt := 112) hx hb dX6_inRows_108 (by decide) ?_
                      refine lv_ladd hx hb dX6_inRows_112 ?_
                      refine lv_lstore (lv' := [(4, .long ((minr S bb sd b0 i) + (S.2 16 (i + 1)))), (7, .int (bI (mstk S (i + 1)))), (0, .ref (ad 0)), (1, .int (nI bb)), (2, .int (nI sd)), (3, .int (bI b0)), (6, .int (nI (i + 1)))]) hx hb dX6_inRows_113 hl (by decide) rfl (fun ls hl => ?_)
                      refine lv_iinc (v := nI ((i + 1) + 1)) (lv' := [(6, .int (nI ((i + 1) + 1))), (4, .long ((minr S bb sd b0 i) + (S.2 16 (i + 1)))), (7, .int (bI (mstk S (i + 1)))), (0, .ref (ad 0)), (1, .int (nI bb)), (2, .int (nI sd)), (3, .int (bI b0))]) hx hb dX6_inRows_115 hl (k := 6) rfl (nI_inc _) (by decide) rfl (fun ls hl => ?_)
                      refine lv_goto (tgt := 6) hx hb dX6_inRows_118 (by decide) ?_
                      have e9 : (minr S bb sd b0 i) + (S.2 16 (i + 1)) = minr S bb sd b0 (i + 1) := by first | rfl | (simp only [minr, nI_21, c_1, c_2, c_3, c_4, c_5, c_6, c_9, c_11, decide_true, decide_false, Bool.not_true, Bool.not_false, Bool.true_and, Bool.and_true, Bool.false_and, Bool.and_false, Bool.or_true, Bool.true_or, Bool.or_false, Bool.false_or, Bool.false_eq_true, Bool.true_eq_false, if_true, if_false, ↓reduceIte]; done)
                      try rw [e9] at hl
                      exact ih_6 (i + 1) (by omega) (by omega) _ _ _ hw (lv_sub hl [3, 4, 5, 6, 1, 0] rfl)
              · skip
                refine lv_goto (tgt := 115) hx hb dX6_inRows_58 (by decide) ?_
                refine lv_iinc (v := nI ((i + 1) + 1)) (lv' := [(6, .int (nI ((i + 1) + 1))), (0, .ref (ad 0)), (1, .int (nI bb)), (2, .int (nI sd)), (3, .int (bI b0)), (4, .long (minr S bb sd b0 i))]) hx hb dX6_inRows_115 hl (k := 5) rfl (nI_inc _) (by decide) rfl (fun ls hl => ?_)
                refine lv_goto (tgt := 6) hx hb dX6_inRows_118 (by decide) ?_
                have e9 : minr S bb sd b0 i = minr S bb sd b0 (i + 1) := by first | rfl | (simp only [minr, nI_21, c_1, c_2, c_3, c_4, c_5, decide_true, decide_false, Bool.not_true, Bool.not_false, Bool.true_and, Bool.and_true, Bool.false_and, Bool.and_false, Bool.or_true, Bool.true_or, Bool.or_false, Bool.false_or, Bool.false_eq_true, Bool.true_eq_false, if_true, if_false, ↓reduceIte]; done)
                try rw [e9] at hl
                exact ih_6 (i + 1) (by omega) (by omega) _ _ _ hw (lv_sub hl [1, 2, 3, 4, 5, 0] rfl)
  have e9 : 0 = minr S bb sd b0 0 := by first | rfl | (simp only [minr, nI_21, decide_true, decide_false, Bool.not_true, Bool.not_false, Bool.true_and, Bool.and_true, Bool.false_and, Bool.and_false, Bool.or_true, Bool.true_or, Bool.or_false, Bool.false_or, Bool.false_eq_true, Bool.true_eq_false, if_true, if_false, ↓reduceIte]; done)
  try rw [e9] at hl
  have e9 : nI 1 = nI (0 + 1) := by first | rfl | (simp only [minr, nI_21, decide_true, decide_false, Bool.not_true, Bool.not_false, Bool.true_and, Bool.and_true, Bool.false_and, Bool.and_false, Bool.or_true, Bool.true_or, Bool.or_false, Bool.false_or, Bool.false_eq_true, Bool.true_eq_false, if_true, if_false, ↓reduceIte]; done)
  try rw [e9] at hl
  exact lp_6 (nr + 1) 0 (by omega) (by omega) _ _ _ hw (lv_sub hl [2, 3, 4, 5, 1, 0] rfl)
