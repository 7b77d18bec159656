theorem dX6_end_0 : decode cX6_end 0 = .ok (.aload_n 0, 1) := by decide +kernel
theorem dX6_end_1 : decode cX6_end 1 = .ok (.iconst 0, 1) := by decide +kernel
theorem dX6_end_2 : decode cX6_end 2 = .ok (.putfield 78, 3) := by decide +kernel
theorem dX6_end_5 : decode cX6_end 5 = .ok (.aload_n 0, 1) := by decide +kernel
theorem dX6_end_6 : decode cX6_end 6 = .ok (.iload_n 1, 1) := by decide +kernel
theorem dX6_end_7 : decode cX6_end 7 = .ok (.invokevirtual 91, 3) := by decide +kernel
theorem dX6_end_10 : decode cX6_end 10 = .ok (.ifCond .ne 5, 3) := by decide +kernel
theorem dX6_end_13 : decode cX6_end 13 = .ok (.iconst 0, 1) := by decide +kernel
theorem dX6_end_14 : decode cX6_end 14 = .ok (.ireturn, 1) := by decide +kernel
theorem dX6_end_15 : decode cX6_end 15 = .ok (.aload_n 0, 1) := by decide +kernel
theorem dX6_end_16 : decode cX6_end 16 = .ok (.getfield 25, 3) := by decide +kernel
theorem dX6_end_19 : decode cX6_end 19 = .ok (.iload_n 1, 1) := by decide +kernel
theorem dX6_end_20 : decode cX6_end 20 = .ok (.iconst 1, 1) := by decide +kernel
theorem dX6_end_21 : decode cX6_end 21 = .ok (.iastore, 1) := by decide +kernel
theorem dX6_end_22 : decode cX6_end 22 = .ok (.aload_n 0, 1) := by decide +kernel
theorem dX6_end_23 : decode cX6_end 23 = .ok (.getfield 36, 3) := by decide +kernel
theorem dX6_end_26 : decode cX6_end 26 = .ok (.iload_n 1, 1) := by decide +kernel
theorem dX6_end_27 : decode cX6_end 27 = .ok (.iconst 0, 1) := by decide +kernel
theorem dX6_end_28 : decode cX6_end 28 = .ok (.iastore, 1) := by decide +kernel
theorem dX6_end_29 : decode cX6_end 29 = .ok (.iconst 0, 1) := by decide +kernel
theorem dX6_end_30 : decode cX6_end 30 = .ok (.istore_n 2, 1) := by decide +kernel
theorem dX6_end_31 : decode cX6_end 31 = .ok (.iload_n 2, 1) := by decide +kernel
theorem dX6_end_32 : decode cX6_end 32 = .ok (.bipush 6, 2) := by decide +kernel
theorem dX6_end_34 : decode cX6_end 34 = .ok (.if_icmp .ge 32, 3) := by decide +kernel
theorem dX6_end_37 : decode cX6_end 37 = .ok (.aload_n 0, 1) := by decide +kernel
theorem dX6_end_38 : decode cX6_end 38 = .ok (.getfield 25, 3) := by decide +kernel
theorem dX6_end_41 : decode cX6_end 41 = .ok (.iload_n 2, 1) := by decide +kernel
theorem dX6_end_42 : decode cX6_end 42 = .ok (.iaload, 1) := by decide +kernel
theorem dX6_end_43 : decode cX6_end 43 = .ok (.iconst 1, 1) := by decide +kernel
theorem dX6_end_44 : decode cX6_end 44 = .ok (.if_icmp .ne 16, 3) := by decide +kernel
theorem dX6_end_47 : decode cX6_end 47 = .ok (.aload_n 0, 1) := by decide +kernel
theorem dX6_end_48 : decode cX6_end 48 = .ok (.iload_n 2, 1) := by decide +kernel
theorem dX6_end_49 : decode cX6_end 49 = .ok (.invokevirtual 144, 3) := by decide +kernel
theorem dX6_end_52 : decode cX6_end 52 = .ok (.ifCond .eq 8, 3) := by decide +kernel
theorem dX6_end_55 : decode cX6_end 55 = .ok (.aload_n 0, 1) := by decide +kernel
theorem dX6_end_56 : decode cX6_end 56 = .ok (.iload_n 2, 1) := by decide +kernel
theorem dX6_end_57 : decode cX6_end 57 = .ok (.invokevirtual 147, 3) := by decide +kernel
theorem dX6_end_60 : decode cX6_end 60 = .ok (.iinc 2 1, 3) := by decide +kernel
theorem dX6_end_63 : decode cX6_end 63 = .ok (.goto (-32), 3) := by decide +kernel
theorem dX6_end_66 : decode cX6_end 66 = .ok (.iconst 1, 1) := by decide +kernel
theorem dX6_end_67 : decode cX6_end 67 = .ok (.ireturn, 1) := by decide +kernel

theorem dX6_vouch_0 : decode cX6_vouch 0 = .ok (.aload_n 0, 1) := by decide +kernel
theorem dX6_vouch_1 : decode cX6_vouch 1 = .ok (.iconst 0, 1) := by decide +kernel
theorem dX6_vouch_2 : decode cX6_vouch 2 = .ok (.putfield 78, 3) := by decide +kernel
theorem dX6_vouch_5 : decode cX6_vouch 5 = .ok (.aload_n 0, 1) := by decide +kernel
theorem dX6_vouch_6 : decode cX6_vouch 6 = .ok (.iload_n 1, 1) := by decide +kernel
theorem dX6_vouch_7 : decode cX6_vouch 7 = .ok (.invokevirtual 91, 3) := by decide +kernel
theorem dX6_vouch_10 : decode cX6_vouch 10 = .ok (.ifCond .eq 24, 3) := by decide +kernel
theorem dX6_vouch_13 : decode cX6_vouch 13 = .ok (.iload_n 2, 1) := by decide +kernel
theorem dX6_vouch_14 : decode cX6_vouch 14 = .ok (.i2l, 1) := by decide +kernel
theorem dX6_vouch_15 : decode cX6_vouch 15 = .ok (.lconst 0, 1) := by decide +kernel
theorem dX6_vouch_16 : decode cX6_vouch 16 = .ok (.ldc2_w 82, 3) := by decide +kernel
theorem dX6_vouch_19 : decode cX6_vouch 19 = .ok (.invokestatic 84, 3) := by decide +kernel
theorem dX6_vouch_22 : decode cX6_vouch 22 = .ok (.ifCond .eq 12, 3) := by decide +kernel
theorem dX6_vouch_25 : decode cX6_vouch 25 = .ok (.aload_n 0, 1) := by decide +kernel
theorem dX6_vouch_26 : decode cX6_vouch 26 = .ok (.getfield 25, 3) := by decide +kernel
theorem dX6_vouch_29 : decode cX6_vouch 29 = .ok (.iload_n 2, 1) := by decide +kernel
theorem dX6_vouch_30 : decode cX6_vouch 30 = .ok (.iaload, 1) := by decide +kernel
theorem dX6_vouch_31 : decode cX6_vouch 31 = .ok (.ifCond .ne 5, 3) := by decide +kernel
theorem dX6_vouch_34 : decode cX6_vouch 34 = .ok (.iconst (-1), 1) := by decide +kernel
theorem dX6_vouch_35 : decode cX6_vouch 35 = .ok (.ireturn, 1) := by decide +kernel
theorem dX6_vouch_36 : decode cX6_vouch 36 = .ok (.aload_n 0, 1) := by decide +kernel
theorem dX6_vouch_37 : decode cX6_vouch 37 = .ok (.getfield 25, 3) := by decide +kernel
theorem dX6_vouch_40 : decode cX6_vouch 40 = .ok (.iload_n 2, 1) := by decide +kernel
theorem dX6_vouch_41 : decode cX6_vouch 41 = .ok (.iaload, 1) := by decide +kernel
theorem dX6_vouch_42 : decode cX6_vouch 42 = .ok (.iconst 2, 1) := by decide +kernel
theorem dX6_vouch_43 : decode cX6_vouch 43 = .ok (.if_icmp .eq 17, 3) := by decide +kernel
theorem dX6_vouch_46 : decode cX6_vouch 46 = .ok (.aload_n 0, 1) := by decide +kernel
theorem dX6_vouch_47 : decode cX6_vouch 47 = .ok (.getfield 33, 3) := by decide +kernel
theorem dX6_vouch_50 : decode cX6_vouch 50 = .ok (.bipush 6, 2) := by decide +kernel
theorem dX6_vouch_52 : decode cX6_vouch 52 = .ok (.iload_n 2, 1) := by decide +kernel
theorem dX6_vouch_53 : decode cX6_vouch 53 = .ok (.imul, 1) := by decide +kernel
theorem dX6_vouch_54 : decode cX6_vouch 54 = .ok (.iload_n 1, 1) := by decide +kernel
theorem dX6_vouch_55 : decode cX6_vouch 55 = .ok (.iadd, 1) := by decide +kernel
theorem dX6_vouch_56 : decode cX6_vouch 56 = .ok (.baload, 1) := by decide +kernel
theorem dX6_vouch_57 : decode cX6_vouch 57 = .ok (.ifCond .eq 5, 3) := by decide +kernel
theorem dX6_vouch_60 : decode cX6_vouch 60 = .ok (.iconst 0, 1) := by decide +kernel
theorem dX6_vouch_61 : decode cX6_vouch 61 = .ok (.ireturn, 1) := by decide +kernel
theorem dX6_vouch_62 : decode cX6_vouch 62 = .ok (.aload_n 0, 1) := by decide +kernel
theorem dX6_vouch_63 : decode cX6_vouch 63 = .ok (.getfield 33, 3) := by decide +kernel
theorem dX6_vouch_66 : decode cX6_vouch 66 = .ok (.bipush 6, 2) := by decide +kernel
theorem dX6_vouch_68 : decode cX6_vouch 68 = .ok (.iload_n 2, 1) := by decide +kernel
theorem dX6_vouch_69 : decode cX6_vouch 69 = .ok (.imul, 1) := by decide +kernel
theorem dX6_vouch_70 : decode cX6_vouch 70 = .ok (.iload_n 1, 1) := by decide +kernel
theorem dX6_vouch_71 : decode cX6_vouch 71 = .ok (.iadd, 1) := by decide +kernel
theorem dX6_vouch_72 : decode cX6_vouch 72 = .ok (.iconst 1, 1) := by decide +kernel
theorem dX6_vouch_73 : decode cX6_vouch 73 = .ok (.bastore, 1) := by decide +kernel
theorem dX6_vouch_74 : decode cX6_vouch 74 = .ok (.aload_n 0, 1) := by decide +kernel
theorem dX6_vouch_75 : decode cX6_vouch 75 = .ok (.iload_n 2, 1) := by decide +kernel
theorem dX6_vouch_76 : decode cX6_vouch 76 = .ok (.invokevirtual 144, 3) := by decide +kernel
theorem dX6_vouch_79 : decode cX6_vouch 79 = .ok (.ifCond .ne 5, 3) := by decide +kernel
theorem dX6_vouch_82 : decode cX6_vouch 82 = .ok (.iconst 1, 1) := by decide +kernel
theorem dX6_vouch_83 : decode cX6_vouch 83 = .ok (.ireturn, 1) := by decide +kernel
theorem dX6_vouch_84 : decode cX6_vouch 84 = .ok (.aload_n 0, 1) := by decide +kernel
theorem dX6_vouch_85 : decode cX6_vouch 85 = .ok (.iload_n 2, 1) := by decide +kernel
theorem dX6_vouch_86 : decode cX6_vouch 86 = .ok (.invokevirtual 147, 3) := by decide +kernel
theorem dX6_vouch_89 : decode cX6_vouch 89 = .ok (.iconst 2, 1) := by decide +kernel
theorem dX6_vouch_90 : decode cX6_vouch 90 = .ok (.ireturn, 1) := by decide +kernel

set_option maxHeartbeats 4000000 in
set_option maxRecDepth 100000 in
theorem kX6_end (l : Launch) (dC : Nat → ClassId) (dI : Nat → Nat → Nat) (ca : Nat → ClassId) (ad : Nat → Nat) (S : sSt) (pp : Int32) (nb : Nat) (nr : Nat) (hb6 : nb ≤ 6) (hr2 : nr ≤ 200) (hmi : MI nb nr S) (hen : ∀ p, pp = nI p → p < 6 → menH (mt0 S) nb nr p) : ct_I l yX6_end (Cond.code yX6_end cX6_end 3 (some .boolean) :: wa_T) ({ frames := 4, cells := 0, slots := 0, locals := 102 } : Room) (dC, dI) vwCl (tyl ca) (wq ca ad) S [.ref (ad 0), .int pp] (fun r S2 => r = bI (mwl (mt0 S) pp) ∧ S2 = menF (mt0 S) nb nr pp) := by
  refine ct_ofI (by decide) (Nat.le_of_ble_eq_true rfl) ?_
  intro p e s m below meth c A ls hx hb hr hml hts hown hlocks hK hA hw hl
  have hl : lv_has ls 3 [(0, .ref (ad 0)), (1, .int pp)] := hl
  refine lv_aload_n hx hb dX6_end_0 rfl (lv_at hl 0 rfl) ?_
  refine lv_iconst (v := nI 0) hx hb dX6_end_1 (by decide) ?_
  refine wo_put (ty := .int) (v := .int (nI 0)) hx hb hts inX6 tyX6 tyX6_ok nmX6 hown hK hw 0 rfl rfl 0 (by decide) (hts _ wd_565) (fun _ h9 => h9) rfl (by decide +kernel) rfl rfl (Nat.le_of_ble_eq_true rfl) (sg_0 ca ad S (nI 0)) dX6_end_2 (fun H locs hw => ?_)
  have hw : wo_w (dC, dI) vwCl A s.heap (wq ca ad (mt0 S)) H locs := hw
  have hmt := MI_0 hmi
  refine lv_aload_n hx hb dX6_end_5 rfl (lv_at hl 0 rfl) ?_
  refine lv_iload_n hx hb dX6_end_6 rfl (lv_at hl 1 rfl) ?_
  refine wo_vI (As := [.int pp]) (rest := []) (kX6_isWell l dC dI ca ad (mt0 S) pp) ⟨hx, hb, hml, hown, hts⟩ (cwV 1 hts (wa_gV wd_655 wd_657 ws_13 wd_8 wd_658) rfl rfl rfl (by decide +kernel) ⟨Nat.le_of_ble_eq_true rfl, Nat.le_of_ble_eq_true rfl⟩) hK hw hA 0 rfl rfl rfl rfl hl.1 rfl (Nat.le_of_ble_eq_true rfl) dX6_end_7 ⟨Nat.zero_le _, Nat.zero_le _⟩ (fun r_1 S_1 H locs hp_1 hw => ?_)
  have e9 := hp_1.1.symm
  subst e9
  have e9 := hp_1.2.symm
  subst e9
  refine lv_if_ne (tgt := 15) hx hb dX6_end_10 (by decide) (fun c_2 => ?_) (fun c_2 => ?_)
  · skip
    have c_2 : mwl (mt0 S) pp = true := nb_1 c_2
    obtain ⟨p9, hp9, rfl⟩ := mwl_n c_2
    have ec_p9 := nI_clamp (n := p9) (by omega)
    have hwl := c_2
    have hE0 := MI_men0 (p := p9) hmt
    refine lv_aload_n hx hb dX6_end_15 rfl (lv_at hl 0 rfl) ?_
    refine wo_get hx hb hts inX6 hown hK hw 0 rfl rfl 7 (by decide) (hts _ wd_572) (fun _ h9 => h9) rfl dX6_end_16 ?_
    refine lv_iload_n hx hb dX6_end_19 rfl (lv_at hl 1 rfl) ?_
    refine lv_iconst (v := nI 1) hx hb dX6_end_20 (by decide) ?_
    refine wo_iast hx hb hK hw 6 0 rfl rfl p9 rfl (by first | assumption | omega) (by decide) (sm_6 ca ad (mt0 S) p9 (nI 1)) dX6_end_21 (fun H locs hw => ?_)
    refine lv_aload_n hx hb dX6_end_22 rfl (lv_at hl 0 rfl) ?_
    refine wo_get hx hb hts inX6 hown hK hw 0 rfl rfl 10 (by decide) (hts _ wd_575) (fun _ h9 => h9) rfl dX6_end_23 ?_
    refine lv_iload_n hx hb dX6_end_26 rfl (lv_at hl 1 rfl) ?_
    refine lv_iconst (v := nI 0) hx hb dX6_end_27 (by decide) ?_
    refine wo_iast hx hb hK hw 9 0 rfl rfl p9 rfl (by first | assumption | omega) (by decide) (sm_9 ca ad (sI (mt0 S) 6 p9 (nI 1)) p9 (nI 0)) dX6_end_28 (fun H locs hw => ?_)
    refine lv_iconst (v := nI 0) hx hb dX6_end_29 (by decide) ?_
    refine lv_istore_n (lv' := [(2, .int (nI 0)), (0, .ref (ad 0)), (1, .int (nI p9))]) hx hb dX6_end_30 rfl hl (by decide) rfl (fun ls hl => ?_)
    have lp_31 : ∀ (n : Nat) (i : Nat), i ≤ 6 → 7 ≤ i + n → ∀ (H : Heap) (locs : List Loc) (ls : Array Slot), wo_w (dC, dI) vwCl A s.heap (wq ca ad (menL nb nr (men0 (mt0 S) p9) i)) H locs → lv_has ls 3 [(0, .ref (ad 0)), (2, .int (nI i))] → W p l e ({ frames := 4, cells := 0, slots := 0, locals := 102 } : Room) s m ([.ref (ad 0), .int (nI p9)] : List Value).toArray below meth c H locs 0 0 (MQ below (va_Qi (fun r S2 => r = bI (mwl (mt0 S) (nI p9)) ∧ S2 = menF (mt0 S) nb nr (nI p9)) (ct_B (dC, dI) vwCl (tyl ca) (wq ca ad) A) A) ([.ref (ad 0), .int (nI p9)] : List Value).toArray s 0 0 A) (F0 m 31 ls []) := by
      intro n
      induction n with
      | zero =>
        intro i hi hn
        exfalso
        omega
      | succ n ih_31 =>
        intro i hi hn H locs ls hw hl
        refine lv_iload_n hx hb dX6_end_31 rfl (lv_at hl 1 rfl) ?_
        refine lv_bipush (v := nI 6) hx hb dX6_end_32 (by decide) ?_
        refine lv_icmp_ge (tgt := 66) hx hb dX6_end_34 (by decide) (fun c_3 => ?_) (fun c_3 => ?_)
        · skip
          have c_3 : 6 ≤ i := (nI_leI (a := 6) (b := i) (by omega) (by omega)).mp c_3
          obtain rfl : 6 = i := by omega
          refine lv_iconst (v := nI 1) hx hb dX6_end_66 (by decide) ?_
          exact ct_zret (S := menL nb nr (men0 (mt0 S) p9) 6) (v := nI 1) hx hb hr hlocks hK (by first | decide | exact nb_z _) hw (⟨by simp only [bI, hwl, ↓reduceIte], by simp only [menF, hwl, ec_p9, ↓reduceIte]⟩) dX6_end_67
        · skip
          have c_3 : ¬ (6 ≤ i) := fun h9 => c_3 ((nI_leI (a := 6) (b := i) (by omega) (by omega)).mpr h9)
          refine lv_aload_n hx hb dX6_end_37 rfl (lv_at hl 0 rfl) ?_
          refine wo_get hx hb hts inX6 hown hK hw 0 rfl rfl 7 (by decide) (hts _ wd_572) (fun _ h9 => h9) rfl dX6_end_38 ?_
          refine lv_iload_n hx hb dX6_end_41 rfl (lv_at hl 1 rfl) ?_
          refine wo_iald hx hb hK hw 6 0 rfl rfl i rfl (by first | assumption | omega) (by decide) dX6_end_42 ?_
          refine lv_iconst (v := nI 1) hx hb dX6_end_43 (by decide) ?_
          refine lv_icmp_ne (tgt := 60) hx hb dX6_end_44 (by decide) (fun c_4 => ?_) (fun c_4 => ?_)
          · skip
            refine lv_iinc (v := nI (i + 1)) (lv' := [(2, .int (nI (i + 1))), (0, .ref (ad 0))]) hx hb dX6_end_60 hl (k := 1) rfl (nI_inc _) (by decide) rfl (fun ls hl => ?_)
            refine lv_goto (tgt := 31) hx hb dX6_end_63 (by decide) ?_
            have e9 : menL nb nr (men0 (mt0 S) p9) i = menL nb nr (men0 (mt0 S) p9) (i + 1) := by first | rfl | (simp only [menL, c_3, c_4, decide_true, decide_false, Bool.not_true, Bool.not_false, Bool.true_and, Bool.and_true, Bool.false_and, Bool.and_false, Bool.or_true, Bool.true_or, Bool.or_false, Bool.false_or, Bool.false_eq_true, Bool.true_eq_false, if_true, if_false, ↓reduceIte]; done)
            try rw [e9] at hw
            exact ih_31 (i + 1) (by omega) (by omega) _ _ _ hw (lv_sub hl [1, 0] rfl)
          · skip
            refine lv_aload_n hx hb dX6_end_47 rfl (lv_at hl 0 rfl) ?_
            refine lv_iload_n hx hb dX6_end_48 rfl (lv_at hl 1 rfl) ?_
            refine wo_vI (As := [.int (nI i)]) (rest := []) (kX6_isTold l dC dI ca ad (menL nb nr (men0 (mt0 S) p9) i) i (by first | assumption | omega)) ⟨hx, hb, hml, hown, hts⟩ (cwV 1 hts (wa_gV wd_732 wd_734 ws_21 wd_8 wd_735) rfl rfl rfl (by decide +kernel) ⟨Nat.le_of_ble_eq_true rfl, Nat.le_of_ble_eq_true rfl⟩) hK hw hA 0 rfl rfl rfl rfl hl.1 rfl (Nat.le_of_ble_eq_true rfl) dX6_end_49 ⟨Nat.zero_le _, Nat.zero_le _⟩ (fun r_5 S_5 H locs hp_5 hw => ?_)
            have e9 := hp_5.1.symm
            subst e9
            have e9 := hp_5.2.symm
            subst e9
            refine lv_if_eq (tgt := 60) hx hb dX6_end_52 (by decide) (fun c_6 => ?_) (fun c_6 => ?_)
            · skip
              have c_6 : mtl (menL nb nr (men0 (mt0 S) p9) i) i = false := nb_0 c_6
              refine lv_iinc (v := nI (i + 1)) (lv' := [(2, .int (nI (i + 1))), (0, .ref (ad 0))]) hx hb dX6_end_60 hl (k := 1) rfl (nI_inc _) (by decide) rfl (fun ls hl => ?_)
              refine lv_goto (tgt := 31) hx hb dX6_end_63 (by decide) ?_
              have e9 : menL nb nr (men0 (mt0 S) p9) i = menL nb nr (men0 (mt0 S) p9) (i + 1) := by first | rfl | (simp only [menL, c_3, c_4, c_6, decide_true, decide_false, Bool.not_true, Bool.not_false, Bool.true_and, Bool.and_true, Bool.false_and, Bool.and_false, Bool.or_true, Bool.true_or, Bool.or_false, Bool.false_or, Bool.false_eq_true, Bool.true_eq_false, if_true, if_false, ↓reduceIte]; done)
              try rw [e9] at hw
              exact ih_31 (i + 1) (by omega) (by omega) _ _ _ hw (lv_sub hl [1, 0] rfl)
            · skip
              have c_6 : mtl (menL nb nr (men0 (mt0 S) p9) i) i = true := nb_1 c_6
              refine lv_aload_n hx hb dX6_end_55 rfl (lv_at hl 0 rfl) ?_
              refine lv_iload_n hx hb dX6_end_56 rfl (lv_at hl 1 rfl) ?_
              refine wo_vV (As := [.int (nI i)]) (rest := []) (kX6_recover l dC dI ca ad (menL nb nr (men0 (mt0 S) p9) i) i nb nr (by first | assumption | omega) (by first | assumption | omega) (by first | assumption | omega) (MI_menL hE0 i) (hen p9 rfl hp9 i (by omega) (by simp only [c_4, c_6, decide_true, decide_false, Bool.not_true, Bool.not_false, Bool.true_and, Bool.and_true, Bool.false_and, Bool.and_false, Bool.or_true, Bool.true_or, Bool.or_false, Bool.false_or, Bool.false_eq_true, Bool.true_eq_false, if_true, if_false, ↓reduceIte]))) ⟨hx, hb, hml, hown, hts⟩ (cwV 1 hts (wa_gV wd_736 wd_738 ws_22 wd_8 wd_739) rfl rfl rfl (by decide +kernel) ⟨Nat.le_of_ble_eq_true rfl, Nat.le_of_ble_eq_true rfl⟩) hK hw hA 0 rfl rfl rfl rfl hl.1 rfl (Nat.le_of_ble_eq_true rfl) dX6_end_57 ⟨Nat.zero_le _, Nat.zero_le _⟩ (fun S_7 H locs hp_7 hw => ?_)
              have eS_7 := hp_7
              refine lv_iinc (v := nI (i + 1)) (lv' := [(2, .int (nI (i + 1))), (0, .ref (ad 0))]) hx hb dX6_end_60 hl (k := 1) rfl (nI_inc _) (by decide) rfl (fun ls hl => ?_)
              refine lv_goto (tgt := 31) hx hb dX6_end_63 (by decide) ?_
              have e9 : S_7 = menL nb nr (men0 (mt0 S) p9) (i + 1) := by rw [eS_7]; simp only [menL, c_3, c_4, c_6, decide_true, decide_false, Bool.not_true, Bool.not_false, Bool.true_and, Bool.and_true, Bool.false_and, Bool.and_false, Bool.or_true, Bool.true_or, Bool.or_false, Bool.false_or, Bool.false_eq_true, Bool.true_eq_false, if_true, if_false, ↓reduceIte]
              try rw [e9] at hw
              exact ih_31 (i + 1) (by omega) (by omega) _ _ _ hw (lv_sub hl [1, 0] rfl)
    have e9 : sI (sI (mt0 S) 6 p9 (nI 1)) 9 p9 (nI 0) = menL nb nr (men0 (mt0 S) p9) 0 := by first | rfl | (simp only [menL, c_2, ec_p9, decide_true, decide_false, Bool.not_true, Bool.not_false, Bool.true_and, Bool.and_true, Bool.false_and, Bool.and_false, Bool.or_true, Bool.true_or, Bool.or_false, Bool.false_or, Bool.false_eq_true, Bool.true_eq_false, if_true, if_false, ↓reduceIte]; done)
    try rw [e9] at hw
    exact lp_31 7 0 (by omega) (by omega) _ _ _ hw (lv_sub hl [1, 0] rfl)
  · skip
    have c_2 : mwl (mt0 S) pp = false := nb_0 c_2
    refine lv_iconst (v := nI 0) hx hb dX6_end_13 (by decide) ?_
    exact ct_zret (S := mt0 S) (v := nI 0) hx hb hr hlocks hK (by first | decide | exact nb_z _) hw (⟨by simp only [bI, c_2, decide_true, decide_false, Bool.not_true, Bool.not_false, Bool.true_and, Bool.and_true, Bool.false_and, Bool.and_false, Bool.or_true, Bool.true_or, Bool.or_false, Bool.false_or, Bool.false_eq_true, Bool.true_eq_false, if_true, if_false, ↓reduceIte], by simp only [menF, c_2, decide_true, decide_false, Bool.not_true, Bool.not_false, Bool.true_and, Bool.and_true, Bool.false_and, Bool.and_false, Bool.or_true, Bool.true_or, Bool.or_false, Bool.false_or, Bool.false_eq_true, Bool.true_eq_false, if_true, if_false, ↓reduceIte]⟩) dX6_end_14

set_option maxHeartbeats 4000000 in
set_option maxRecDepth 100000 in
theorem kX6_vouch (l : Launch) (dC : Nat → ClassId) (dI : Nat → Nat → Nat) (ca : Nat → ClassId) (ad : Nat → Nat) (S : sSt) (pp : Int32) (ee : Int32) (nb : Nat) (nr : Nat) (hb6 : nb ≤ 6) (hr2 : nr ≤ 200) (hmi : MI nb nr S) (hvo : ∀ p e, pp = nI p → ee = nI e → p < 6 → e < 6 → ¬ (mt0 S).1 6 e = 0 → mtl (mvcT (mt0 S) p e) e = true → mrecH (mvcT (mt0 S) p e) e nb nr) : ct_I l yX6_vouch (Cond.code yX6_vouch cX6_vouch 3 (some .int) :: wa_T) ({ frames := 4, cells := 0, slots := 0, locals := 102 } : Room) (dC, dI) vwCl (tyl ca) (wq ca ad) S [.ref (ad 0), .int pp, .int ee] (fun r S2 => r = (mvcF (mt0 S) nb nr pp ee).1 ∧ S2 = (mvcF (mt0 S) nb nr pp ee).2) := by
  refine ct_ofI (by decide) (Nat.le_of_ble_eq_true rfl) ?_
  intro p e s m below meth c A ls hx hb hr hml hts hown hlocks hK hA hw hl
  have hl : lv_has ls 3 [(0, .ref (ad 0)), (1, .int pp), (2, .int ee)] := hl
  refine lv_aload_n hx hb dX6_vouch_0 rfl (lv_at hl 0 rfl) ?_
  refine lv_iconst (v := nI 0) hx hb dX6_vouch_1 (by decide) ?_
  refine wo_put (ty := .int) (v := .int (nI 0)) hx hb hts inX6 tyX6 tyX6_ok nmX6 hown hK hw 0 rfl rfl 0 (by decide) (hts _ wd_565) (fun _ h9 => h9) rfl (by decide +kernel) rfl rfl (Nat.le_of_ble_eq_true rfl) (sg_0 ca ad S (nI 0)) dX6_vouch_2 (fun H locs hw => ?_)
  have hw : wo_w (dC, dI) vwCl A s.heap (wq ca ad (mt0 S)) H locs := hw
  have hmt := MI_0 hmi
  refine lv_aload_n hx hb dX6_vouch_5 rfl (lv_at hl 0 rfl) ?_
  refine lv_iload_n hx hb dX6_vouch_6 rfl (lv_at hl 1 rfl) ?_
  refine wo_vI (As := [.int pp]) (rest := []) (kX6_isWell l dC dI ca ad (mt0 S) pp) ⟨hx, hb, hml, hown, hts⟩ (cwV 1 hts (wa_gV wd_655 wd_657 ws_13 wd_8 wd_658) rfl rfl rfl (by decide +kernel) ⟨Nat.le_of_ble_eq_true rfl, Nat.le_of_ble_eq_true rfl⟩) hK hw hA 0 rfl rfl rfl rfl hl.1 rfl (Nat.le_of_ble_eq_true rfl) dX6_vouch_7 ⟨Nat.zero_le _, Nat.zero_le _⟩ (fun r_1 S_1 H locs hp_1 hw => ?_)
  have e9 := hp_1.1.symm
  subst e9
  have e9 := hp_1.2.symm
  subst e9
  refine lv_if_eq (tgt := 34) hx hb dX6_vouch_10 (by decide) (fun c_2 => ?_) (fun c_2 => ?_)
  · skip
    have c_2 : mwl (mt0 S) pp = false := nb_0 c_2
    refine lv_iconst (v := (-1)) hx hb dX6_vouch_34 (by decide) ?_
    exact ct_iret (S := mt0 S) (v := (-1)) hx hb hr hlocks hK hw (⟨by simp only [mvcF, mvcG, mvcR, nI_20, c_2, decide_true, decide_false, Bool.not_true, Bool.not_false, Bool.true_and, Bool.and_true, Bool.false_and, Bool.and_false, Bool.or_true, Bool.true_or, Bool.or_false, Bool.false_or, Bool.false_eq_true, Bool.true_eq_false, if_true, if_false, ↓reduceIte], by simp only [mvcF, mvcG, mvcR, nI_20, c_2, decide_true, decide_false, Bool.not_true, Bool.not_false, Bool.true_and, Bool.and_true, Bool.false_and, Bool.and_false, Bool.or_true, Bool.true_or, Bool.or_false, Bool.false_or, Bool.false_eq_true, Bool.true_eq_false, if_true, if_false, ↓reduceIte]⟩) dX6_vouch_35
  · skip
    have c_2 : mwl (mt0 S) pp = true := nb_1 c_2
    obtain ⟨p9, hp9, rfl⟩ := mwl_n c_2
    have ec_p9 := nI_clamp (n := p9) (by omega)
    refine lv_iload_n hx hb dX6_vouch_13 rfl (lv_at hl 2 rfl) ?_
    refine lv_i2l hx hb dX6_vouch_14 rfl ?_
    refine lv_lconst (v := 0) hx hb dX6_vouch_15 (by decide) ?_
    refine lv_ldc2 hx hb hown (hts _ wd_659) dX6_vouch_16 ?_
    refine wo_sI (As := [.long ((ee).toInt64), .long 0, .long 5]) (rest := []) (kX6_within l dC dI ca ad (mt0 S) ((ee).toInt64) 0 5) ⟨hx, hb, hml, hown, hts⟩ (va_cwS 3 hts (wa_gS wd_660 wd_661 wd_8 wd_662) rfl rfl rfl (by decide +kernel) ⟨Nat.le_of_ble_eq_true rfl, Nat.le_of_ble_eq_true rfl⟩) hK hw hA rfl hl.1 rfl (Nat.le_of_ble_eq_true rfl) dX6_vouch_19 ⟨Nat.zero_le _, Nat.zero_le _⟩ (fun r_3 S_3 H locs hp_3 hw => ?_)
    have e9 := hp_3.1.symm
    subst e9
    have e9 := hp_3.2.symm
    subst e9
    refine lv_if_eq (tgt := 34) hx hb dX6_vouch_22 (by decide) (fun c_4 => ?_) (fun c_4 => ?_)
    · skip
      have c_4 : wth ((ee).toInt64) 0 5 = false := nb_0 c_4
      refine lv_iconst (v := (-1)) hx hb dX6_vouch_34 (by decide) ?_
      exact ct_iret (S := mt0 S) (v := (-1)) hx hb hr hlocks hK hw (⟨by simp only [mvcF, mvcG, mvcR, nI_20, c_2, ec_p9, c_4, decide_true, decide_false, Bool.not_true, Bool.not_false, Bool.true_and, Bool.and_true, Bool.false_and, Bool.and_false, Bool.or_true, Bool.true_or, Bool.or_false, Bool.false_or, Bool.false_eq_true, Bool.true_eq_false, if_true, if_false, ↓reduceIte], by simp only [mvcF, mvcG, mvcR, nI_20, c_2, ec_p9, c_4, decide_true, decide_false, Bool.not_true, Bool.not_false, Bool.true_and, Bool.and_true, Bool.false_and, Bool.and_false, Bool.or_true, Bool.true_or, Bool.or_false, Bool.false_or, Bool.false_eq_true, Bool.true_eq_false, if_true, if_false, ↓reduceIte]⟩) dX6_vouch_35
    · skip
      have c_4 : wth ((ee).toInt64) 0 5 = true := nb_1 c_4
      obtain ⟨e9, he9, rfl⟩ := w5_n c_4
      have ec_e9 := nI_clamp (n := e9) (by omega)
      refine lv_aload_n hx hb dX6_vouch_25 rfl (lv_at hl 0 rfl) ?_
      refine wo_get hx hb hts inX6 hown hK hw 0 rfl rfl 7 (by decide) (hts _ wd_572) (fun _ h9 => h9) rfl dX6_vouch_26 ?_
      refine lv_iload_n hx hb dX6_vouch_29 rfl (lv_at hl 2 rfl) ?_
      refine wo_iald hx hb hK hw 6 0 rfl rfl e9 rfl (by first | assumption | omega) (by decide) dX6_vouch_30 ?_
      refine lv_if_ne (tgt := 36) hx hb dX6_vouch_31 (by decide) (fun c_5 => ?_) (fun c_5 => ?_)
      · skip
        refine lv_aload_n hx hb dX6_vouch_36 rfl (lv_at hl 0 rfl) ?_
        refine wo_get hx hb hts inX6 hown hK hw 0 rfl rfl 7 (by decide) (hts _ wd_572) (fun _ h9 => h9) rfl dX6_vouch_37 ?_
        refine lv_iload_n hx hb dX6_vouch_40 rfl (lv_at hl 2 rfl) ?_
        refine wo_iald hx hb hK hw 6 0 rfl rfl e9 rfl (by first | assumption | omega) (by decide) dX6_vouch_41 ?_
        refine lv_iconst (v := nI 2) hx hb dX6_vouch_42 (by decide) ?_
        refine lv_icmp_eq (tgt := 60) hx hb dX6_vouch_43 (by decide) (fun c_6 => ?_) (fun c_6 => ?_)
        · skip
          refine lv_iconst (v := nI 0) hx hb dX6_vouch_60 (by decide) ?_
          exact ct_iret (S := mt0 S) (v := nI 0) hx hb hr hlocks hK hw (⟨by simp only [mvcF, mvcG, mvcR, nI_20, c_2, ec_p9, c_4, ec_e9, c_5, c_6, decide_true, decide_false, Bool.not_true, Bool.not_false, Bool.true_and, Bool.and_true, Bool.false_and, Bool.and_false, Bool.or_true, Bool.true_or, Bool.or_false, Bool.false_or, Bool.false_eq_true, Bool.true_eq_false, if_true, if_false, ↓reduceIte], by simp only [mvcF, mvcG, mvcR, nI_20, c_2, ec_p9, c_4, ec_e9, c_5, c_6, decide_true, decide_false, Bool.not_true, Bool.not_false, Bool.true_and, Bool.and_true, Bool.false_and, Bool.and_false, Bool.or_true, Bool.true_or, Bool.or_false, Bool.false_or, Bool.false_eq_true, Bool.true_eq_false, if_true, if_false, ↓reduceIte]⟩) dX6_vouch_61
        · skip
          refine lv_aload_n hx hb dX6_vouch_46 rfl (lv_at hl 0 rfl) ?_
          refine wo_get hx hb hts inX6 hown hK hw 0 rfl rfl 9 (by decide) (hts _ wd_574) (fun _ h9 => h9) rfl dX6_vouch_47 ?_
          refine lv_bipush (v := nI 6) hx hb dX6_vouch_50 (by decide) ?_
          refine lv_iload_n hx hb dX6_vouch_52 rfl (lv_at hl 2 rfl) ?_
          refine lv_imul hx hb dX6_vouch_53 ?_
          refine tp_i (pk_mul 6 e9) ?_
          refine lv_iload_n hx hb dX6_vouch_54 rfl (lv_at hl 1 rfl) ?_
          refine lv_iadd hx hb dX6_vouch_55 ?_
          refine tp_i (nI_add (6 * e9) p9) ?_
          refine wo_zald hx hb hK hw 8 2 rfl rfl ((6 * e9) + p9) rfl (by first | assumption | omega) (by decide) dX6_vouch_56 ?_
          refine lv_if_eq (tgt := 62) hx hb dX6_vouch_57 (by decide) (fun c_7 => ?_) (fun c_7 => ?_)
          · skip
            refine lv_aload_n hx hb dX6_vouch_62 rfl (lv_at hl 0 rfl) ?_
            refine wo_get hx hb hts inX6 hown hK hw 0 rfl rfl 9 (by decide) (hts _ wd_574) (fun _ h9 => h9) rfl dX6_vouch_63 ?_
            refine lv_bipush (v := nI 6) hx hb dX6_vouch_66 (by decide) ?_
            refine lv_iload_n hx hb dX6_vouch_68 rfl (lv_at hl 2 rfl) ?_
            refine lv_imul hx hb dX6_vouch_69 ?_
            refine tp_i (pk_mul 6 e9) ?_
            refine lv_iload_n hx hb dX6_vouch_70 rfl (lv_at hl 1 rfl) ?_
            refine lv_iadd hx hb dX6_vouch_71 ?_
            refine tp_i (nI_add (6 * e9) p9) ?_
            refine lv_iconst (v := nI 1) hx hb dX6_vouch_72 (by decide) ?_
            refine wo_zast hx hb hK hw 8 2 rfl rfl ((6 * e9) + p9) rfl (by first | assumption | omega) (by decide) (by first | decide | assumption | exact nb_v _) (sm_8 ca ad (mt0 S) ((6 * e9) + p9) (nI 1)) dX6_vouch_73 (fun H locs hw => ?_)
            have hw : wo_w (dC, dI) vwCl A s.heap (wq ca ad (mvcT (mt0 S) p9 e9)) H locs := hw
            have hvc : MI nb nr (mvcT (mt0 S) p9 e9) := MI_sI hmt (by omega)
            refine lv_aload_n hx hb dX6_vouch_74 rfl (lv_at hl 0 rfl) ?_
            refine lv_iload_n hx hb dX6_vouch_75 rfl (lv_at hl 2 rfl) ?_
            refine wo_vI (As := [.int (nI e9)]) (rest := []) (kX6_isTold l dC dI ca ad (mvcT (mt0 S) p9 e9) e9 (by first | assumption | omega)) ⟨hx, hb, hml, hown, hts⟩ (cwV 1 hts (wa_gV wd_732 wd_734 ws_21 wd_8 wd_735) rfl rfl rfl (by decide +kernel) ⟨Nat.le_of_ble_eq_true rfl, Nat.le_of_ble_eq_true rfl⟩) hK hw hA 0 rfl rfl rfl rfl hl.1 rfl (Nat.le_of_ble_eq_true rfl) dX6_vouch_76 ⟨Nat.zero_le _, Nat.zero_le _⟩ (fun r_8 S_8 H locs hp_8 hw => ?_)
            have e9 := hp_8.1.symm
            subst e9
            have e9 := hp_8.2.symm
            subst e9
            refine lv_if_ne (tgt := 84) hx hb dX6_vouch_79 (by decide) (fun c_9 => ?_) (fun c_9 => ?_)
            · skip
              have c_9 : mtl (mvcT (mt0 S) p9 e9) e9 = true := nb_1 c_9
              refine lv_aload_n hx hb dX6_vouch_84 rfl (lv_at hl 0 rfl) ?_
              refine lv_iload_n hx hb dX6_vouch_85 rfl (lv_at hl 2 rfl) ?_
              refine wo_vV (As := [.int (nI e9)]) (rest := []) (kX6_recover l dC dI ca ad (mvcT (mt0 S) p9 e9) e9 nb nr (by first | assumption | omega) (by first | assumption | omega) (by first | assumption | omega) hvc (hvo p9 e9 rfl rfl hp9 he9 c_5 c_9)) ⟨hx, hb, hml, hown, hts⟩ (cwV 1 hts (wa_gV wd_736 wd_738 ws_22 wd_8 wd_739) rfl rfl rfl (by decide +kernel) ⟨Nat.le_of_ble_eq_true rfl, Nat.le_of_ble_eq_true rfl⟩) hK hw hA 0 rfl rfl rfl rfl hl.1 rfl (Nat.le_of_ble_eq_true rfl) dX6_vouch_86 ⟨Nat.zero_le _, Nat.zero_le _⟩ (fun S_10 H locs hp_10 hw => ?_)
              have eS_10 := hp_10
              refine lv_iconst (v := nI 2) hx hb dX6_vouch_89 (by decide) ?_
              exact ct_iret (S := S_10) (v := nI 2) hx hb hr hlocks hK hw (⟨by simp only [mvcF, mvcG, mvcR, nI_20, c_2, ec_p9, c_4, ec_e9, c_5, c_6, c_7, c_9, decide_true, decide_false, Bool.not_true, Bool.not_false, Bool.true_and, Bool.and_true, Bool.false_and, Bool.and_false, Bool.or_true, Bool.true_or, Bool.or_false, Bool.false_or, Bool.false_eq_true, Bool.true_eq_false, if_true, if_false, ↓reduceIte], by rw [eS_10]; simp only [mvcF, mvcG, mvcR, nI_20, c_2, ec_p9, c_4, ec_e9, c_5, c_6, c_7, c_9, decide_true, decide_false, Bool.not_true, Bool.not_false, Bool.true_and, Bool.and_true, Bool.false_and, Bool.and_false, Bool.or_true, Bool.true_or, Bool.or_false, Bool.false_or, Bool.false_eq_true, Bool.true_eq_false, if_true, if_false, ↓reduceIte]⟩) dX6_vouch_90
            · skip
              have c_9 : mtl (mvcT (mt0 S) p9 e9) e9 = false := nb_0 c_9
              refine lv_iconst (v := nI 1) hx hb dX6_vouch_82 (by decide) ?_
              exact ct_iret (S := mvcT (mt0 S) p9 e9) (v := nI 1) hx hb hr hlocks hK hw (⟨by simp only [mvcF, mvcG, mvcR, nI_20, c_2, ec_p9, c_4, ec_e9, c_5, c_6, c_7, c_9, decide_true, decide_false, Bool.not_true, Bool.not_false, Bool.true_and, Bool.and_true, Bool.false_and, Bool.and_false, Bool.or_true, Bool.true_or, Bool.or_false, Bool.false_or, Bool.false_eq_true, Bool.true_eq_false, if_true, if_false, ↓reduceIte], by simp only [mvcF, mvcG, mvcR, nI_20, c_2, ec_p9, c_4, ec_e9, c_5, c_6, c_7, c_9, decide_true, decide_false, Bool.not_true, Bool.not_false, Bool.true_and, Bool.and_true, Bool.false_and, Bool.and_false, Bool.or_true, Bool.true_or, Bool.or_false, Bool.false_or, Bool.false_eq_true, Bool.true_eq_false, if_true, if_false, ↓reduceIte]⟩) dX6_vouch_83
          · skip
            refine lv_iconst (v := nI 0) hx hb dX6_vouch_60 (by decide) ?_
            exact ct_iret (S := mt0 S) (v := nI 0) hx hb hr hlocks hK hw (⟨by simp only [mvcF, mvcG, mvcR, nI_20, c_2, ec_p9, c_4, ec_e9, c_5, c_6, c_7, decide_true, decide_false, Bool.not_true, Bool.not_false, Bool.true_and, Bool.and_true, Bool.false_and, Bool.and_false, Bool.or_true, Bool.true_or, Bool.or_false, Bool.false_or, Bool.false_eq_true, Bool.true_eq_false, if_true, if_false, ↓reduceIte], by simp only [mvcF, mvcG, mvcR, nI_20, c_2, ec_p9, c_4, ec_e9, c_5, c_6, c_7, decide_true, decide_false, Bool.not_true, Bool.not_false, Bool.true_and, Bool.and_true, Bool.false_and, Bool.and_false, Bool.or_true, Bool.true_or, Bool.or_false, Bool.false_or, Bool.false_eq_true, Bool.true_eq_false, if_true, if_false, ↓reduceIte]⟩) dX6_vouch_61
      · skip
        refine lv_iconst (v := (-1)) hx hb dX6_vouch_34 (by decide) ?_
        exact ct_iret (S := mt0 S) (v := (-1)) hx hb hr hlocks hK hw (⟨by simp only [mvcF, mvcG, mvcR, nI_20, c_2, ec_p9, c_4, ec_e9, c_5, decide_true, decide_false, Bool.not_true, Bool.not_false, Bool.true_and, Bool.and_true, Bool.false_and, Bool.and_false, Bool.or_true, Bool.true_or, Bool.or_false, Bool.false_or, Bool.false_eq_true, Bool.true_eq_false, if_true, if_false, ↓reduceIte], by simp only [mvcF, mvcG, mvcR, nI_20, c_2, ec_p9, c_4, ec_e9, c_5, decide_true, decide_false, Bool.not_true, Bool.not_false, Bool.true_and, Bool.and_true, Bool.false_and, Bool.and_false, Bool.or_true, Bool.true_or, Bool.or_false, Bool.false_or, Bool.false_eq_true, Bool.true_eq_false, if_true, if_false, ↓reduceIte]⟩) dX6_vouch_35
