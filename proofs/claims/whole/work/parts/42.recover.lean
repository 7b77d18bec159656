theorem dX5_recover_0 : decode cX5_recover 0 = .ok (.aload_n 0, 1) := by decide +kernel
theorem dX5_recover_1 : decode cX5_recover 1 = .ok (.getfield 10, 3) := by decide +kernel
theorem dX5_recover_4 : decode cX5_recover 4 = .ok (.getfield 172, 3) := by decide +kernel
theorem dX5_recover_7 : decode cX5_recover 7 = .ok (.iload_n 1, 1) := by decide +kernel
theorem dX5_recover_8 : decode cX5_recover 8 = .ok (.iconst 2, 1) := by decide +kernel
theorem dX5_recover_9 : decode cX5_recover 9 = .ok (.iastore, 1) := by decide +kernel
theorem dX5_recover_10 : decode cX5_recover 10 = .ok (.aload_n 0, 1) := by decide +kernel
theorem dX5_recover_11 : decode cX5_recover 11 = .ok (.invokevirtual 260, 3) := by decide +kernel
theorem dX5_recover_14 : decode cX5_recover 14 = .ok (.iconst 0, 1) := by decide +kernel
theorem dX5_recover_15 : decode cX5_recover 15 = .ok (.istore_n 2, 1) := by decide +kernel
theorem dX5_recover_16 : decode cX5_recover 16 = .ok (.iload_n 2, 1) := by decide +kernel
theorem dX5_recover_17 : decode cX5_recover 17 = .ok (.aload_n 0, 1) := by decide +kernel
theorem dX5_recover_18 : decode cX5_recover 18 = .ok (.getfield 19, 3) := by decide +kernel
theorem dX5_recover_21 : decode cX5_recover 21 = .ok (.getfield 77, 3) := by decide +kernel
theorem dX5_recover_24 : decode cX5_recover 24 = .ok (.if_icmp .ge 84, 3) := by decide +kernel
theorem dX5_recover_27 : decode cX5_recover 27 = .ok (.iconst 0, 1) := by decide +kernel
theorem dX5_recover_28 : decode cX5_recover 28 = .ok (.istore_n 3, 1) := by decide +kernel
theorem dX5_recover_29 : decode cX5_recover 29 = .ok (.iload_n 3, 1) := by decide +kernel
theorem dX5_recover_30 : decode cX5_recover 30 = .ok (.iconst 2, 1) := by decide +kernel
theorem dX5_recover_31 : decode cX5_recover 31 = .ok (.if_icmp .ge 71, 3) := by decide +kernel
theorem dX5_recover_34 : decode cX5_recover 34 = .ok (.aload_n 0, 1) := by decide +kernel
theorem dX5_recover_35 : decode cX5_recover 35 = .ok (.getfield 40, 3) := by decide +kernel
theorem dX5_recover_38 : decode cX5_recover 38 = .ok (.aload_n 0, 1) := by decide +kernel
theorem dX5_recover_39 : decode cX5_recover 39 = .ok (.getfield 19, 3) := by decide +kernel
theorem dX5_recover_42 : decode cX5_recover 42 = .ok (.iload_n 2, 1) := by decide +kernel
theorem dX5_recover_43 : decode cX5_recover 43 = .ok (.iload_n 3, 1) := by decide +kernel
theorem dX5_recover_44 : decode cX5_recover 44 = .ok (.iload_n 1, 1) := by decide +kernel
theorem dX5_recover_45 : decode cX5_recover 45 = .ok (.invokevirtual 263, 3) := by decide +kernel
theorem dX5_recover_48 : decode cX5_recover 48 = .ok (.aload_n 0, 1) := by decide +kernel
theorem dX5_recover_49 : decode cX5_recover 49 = .ok (.getfield 26, 3) := by decide +kernel
theorem dX5_recover_52 : decode cX5_recover 52 = .ok (.iload_n 2, 1) := by decide +kernel
theorem dX5_recover_53 : decode cX5_recover 53 = .ok (.iload_n 3, 1) := by decide +kernel
theorem dX5_recover_54 : decode cX5_recover 54 = .ok (.iload_n 1, 1) := by decide +kernel
theorem dX5_recover_55 : decode cX5_recover 55 = .ok (.invokevirtual 266, 3) := by decide +kernel
theorem dX5_recover_58 : decode cX5_recover 58 = .ok (.ladd, 1) := by decide +kernel
theorem dX5_recover_59 : decode cX5_recover 59 = .ok (.invokevirtual 90, 3) := by decide +kernel
theorem dX5_recover_62 : decode cX5_recover 62 = .ok (.iconst 0, 1) := by decide +kernel
theorem dX5_recover_63 : decode cX5_recover 63 = .ok (.istore 4, 2) := by decide +kernel
theorem dX5_recover_65 : decode cX5_recover 65 = .ok (.iload 4, 2) := by decide +kernel
theorem dX5_recover_67 : decode cX5_recover 67 = .ok (.bipush 6, 2) := by decide +kernel
theorem dX5_recover_69 : decode cX5_recover 69 = .ok (.if_icmp .ge 27, 3) := by decide +kernel
theorem dX5_recover_72 : decode cX5_recover 72 = .ok (.aload_n 0, 1) := by decide +kernel
theorem dX5_recover_73 : decode cX5_recover 73 = .ok (.iload_n 2, 1) := by decide +kernel
theorem dX5_recover_74 : decode cX5_recover 74 = .ok (.iload_n 3, 1) := by decide +kernel
theorem dX5_recover_75 : decode cX5_recover 75 = .ok (.iload 4, 2) := by decide +kernel
theorem dX5_recover_77 : decode cX5_recover 77 = .ok (.aload_n 0, 1) := by decide +kernel
theorem dX5_recover_78 : decode cX5_recover 78 = .ok (.getfield 40, 3) := by decide +kernel
theorem dX5_recover_81 : decode cX5_recover 81 = .ok (.getfield 94, 3) := by decide +kernel
theorem dX5_recover_84 : decode cX5_recover 84 = .ok (.iload 4, 2) := by decide +kernel
theorem dX5_recover_86 : decode cX5_recover 86 = .ok (.laload, 1) := by decide +kernel
theorem dX5_recover_87 : decode cX5_recover 87 = .ok (.invokevirtual 168, 3) := by decide +kernel
theorem dX5_recover_90 : decode cX5_recover 90 = .ok (.iinc 4 1, 3) := by decide +kernel
theorem dX5_recover_93 : decode cX5_recover 93 = .ok (.goto (-28), 3) := by decide +kernel
theorem dX5_recover_96 : decode cX5_recover 96 = .ok (.iinc 3 1, 3) := by decide +kernel
theorem dX5_recover_99 : decode cX5_recover 99 = .ok (.goto (-70), 3) := by decide +kernel
theorem dX5_recover_102 : decode cX5_recover 102 = .ok (.iinc 2 1, 3) := by decide +kernel
theorem dX5_recover_105 : decode cX5_recover 105 = .ok (.goto (-89), 3) := by decide +kernel
theorem dX5_recover_108 : decode cX5_recover 108 = .ok (.return_, 1) := by decide +kernel

set_option maxHeartbeats 4000000 in
set_option maxRecDepth 100000 in
theorem kX5_recover (l : Launch) (dC : Nat → ClassId) (dI : Nat → Nat → Nat) (ca : Nat → ClassId) (ad : Nat → Nat) (S : sSt) (gg : Nat) (nb : Nat) (nr : Nat) (hg : gg < 6) (hb6 : nb ≤ 6) (hr2 : nr ≤ 200) (hri : RI nb nr S) : ct_V l yX5_recover (Cond.code yX5_recover cX5_recover 5 none :: wa_T) ({ frames := 4, cells := 0, slots := 0, locals := 98 } : Room) (dC, dI) vwCl (tyl ca) (wc ca ad) S [.ref (ad 0), .int (nI gg)] (fun S2 => S2 = recF S gg nb nr) := by
  refine ct_ofV (by decide) (Nat.le_of_ble_eq_true rfl) ?_
  intro p e s m below meth c A ls hx hb hr hml hts hown hlocks hK hA hw hl
  have hl : lv_has ls 5 [(0, .ref (ad 0)), (1, .int (nI gg))] := hl
  refine lv_aload_n hx hb dX5_recover_0 rfl (lv_at hl 0 rfl) ?_
  refine wo_get hx hb hts inX5 hown hK hw 0 rfl rfl 0 (by decide) (hts _ wd_166) (fun _ h9 => h9) rfl dX5_recover_1 ?_
  refine wo_get hx hb hts inX1 hown hK hw 1 rfl rfl 2 (by decide) (hts _ wd_40) (fun _ h9 => h9) rfl dX5_recover_4 ?_
  refine lv_iload_n hx hb dX5_recover_7 rfl (lv_at hl 1 rfl) ?_
  refine lv_iconst (v := nI 2) hx hb dX5_recover_8 (by decide) ?_
  refine wo_iast hx hb hK hw 8 0 rfl rfl gg rfl (by first | assumption | omega) (by decide) (se_8 ca ad S gg (nI 2)) dX5_recover_9 (fun H locs hw => ?_)
  refine lv_aload_n hx hb dX5_recover_10 rfl (lv_at hl 0 rfl) ?_
  refine wo_vV (As := []) (rest := []) (kX5_useEqualWeights l dC dI ca ad (sI S 8 gg (nI 2)) ) ⟨hx, hb, hml, hown, hts⟩ (cwV 0 hts (wa_gV wd_309 wd_311 ws_6 wd_1 wd_312) rfl rfl rfl (by decide +kernel) ⟨Nat.le_of_ble_eq_true rfl, Nat.le_of_ble_eq_true rfl⟩) hK hw hA 0 rfl rfl rfl rfl hl.1 rfl (Nat.le_of_ble_eq_true rfl) dX5_recover_11 ⟨Nat.zero_le _, Nat.zero_le _⟩ (fun S_1 H locs hp_1 hw => ?_)
  have e9 := hp_1.symm
  subst e9
  have hS0 : RI nb nr (uew (sI S 8 gg (nI 2)) 6) := RI_eq (RI_of (T := sI S 8 gg (nI 2)) hri rfl (fun q hq => by funext j; rw [sI_1, if_neg (by omega)]) rfl rfl) (uew_1 _ _)
  refine lv_iconst (v := nI 0) hx hb dX5_recover_14 (by decide) ?_
  refine lv_istore_n (lv' := [(2, .int (nI 0)), (0, .ref (ad 0)), (1, .int (nI gg))]) hx hb dX5_recover_15 rfl hl (by decide) rfl (fun ls hl => ?_)
  have lp_16 : ∀ (n : Nat) (i : Nat), i ≤ nb → nb + 1 ≤ i + n → ∀ (H : Heap) (locs : List Loc) (ls : Array Slot), wo_w (dC, dI) vwCl A s.heap (wc ca ad (recB gg nr (uew (sI S 8 gg (nI 2)) 6) i)) H locs → lv_has ls 5 [(0, .ref (ad 0)), (1, .int (nI gg)), (2, .int (nI i))] → W p l e ({ frames := 4, cells := 0, slots := 0, locals := 98 } : Room) s m ([.ref (ad 0), .int (nI gg)] : List Value).toArray below meth c H locs 0 0 (MQ below (va_Qv (fun S2 => S2 = recF S gg nb nr) (ct_B (dC, dI) vwCl (tyl ca) (wc ca ad) A) A) ([.ref (ad 0), .int (nI gg)] : List Value).toArray s 0 0 A) (F0 m 16 ls []) := by
    intro n
    induction n with
    | zero =>
      intro i hi hn
      exfalso
      omega
    | succ n ih_16 =>
      intro i hi hn H locs ls hw hl
      refine lv_iload_n hx hb dX5_recover_16 rfl (lv_at hl 2 rfl) ?_
      refine lv_aload_n hx hb dX5_recover_17 rfl (lv_at hl 0 rfl) ?_
      refine wo_get hx hb hts inX5 hown hK hw 0 rfl rfl 1 (by decide) (hts _ wd_167) (fun _ h9 => h9) rfl dX5_recover_18 ?_
      refine wo_get hx hb hts inX0 hown hK hw 2 rfl rfl 0 (by decide) (hts _ wd_64) (fun _ h9 => h9) rfl dX5_recover_21 ?_
      refine tp_i (y := nI nb) ((RI_recB hS0 i).2.1) ?_
      refine lv_icmp_ge (tgt := 108) hx hb dX5_recover_24 (by decide) (fun c_2 => ?_) (fun c_2 => ?_)
      · skip
        have c_2 : nb ≤ i := (nI_leI (a := nb) (b := i) (by omega) (by omega)).mp c_2
        obtain rfl : nb = i := by omega
        exact ct_vret (S := recB gg nr (uew (sI S 8 gg (nI 2)) 6) nb) hx hb hr hlocks hK hw (rfl) dX5_recover_108
      · skip
        have c_2 : ¬ (nb ≤ i) := fun h9 => c_2 ((nI_leI (a := nb) (b := i) (by omega) (by omega)).mpr h9)
        refine lv_iconst (v := nI 0) hx hb dX5_recover_27 (by decide) ?_
        refine lv_istore_n (lv' := [(3, .int (nI 0)), (0, .ref (ad 0)), (1, .int (nI gg)), (2, .int (nI i))]) hx hb dX5_recover_28 rfl hl (by decide) rfl (fun ls hl => ?_)
        have lp_29 : ∀ (n : Nat) (j : Nat), j ≤ 2 → 3 ≤ j + n → ∀ (H : Heap) (locs : List Loc) (ls : Array Slot), wo_w (dC, dI) vwCl A s.heap (wc ca ad (recS gg nr i (recB gg nr (uew (sI S 8 gg (nI 2)) 6) i) j)) H locs → lv_has ls 5 [(0, .ref (ad 0)), (1, .int (nI gg)), (2, .int (nI i)), (3, .int (nI j))] → W p l e ({ frames := 4, cells := 0, slots := 0, locals := 98 } : Room) s m ([.ref (ad 0), .int (nI gg)] : List Value).toArray below meth c H locs 0 0 (MQ below (va_Qv (fun S2 => S2 = recF S gg nb nr) (ct_B (dC, dI) vwCl (tyl ca) (wc ca ad) A) A) ([.ref (ad 0), .int (nI gg)] : List Value).toArray s 0 0 A) (F0 m 29 ls []) := by
          intro n
          induction n with
          | zero =>
            intro j hj hn
            exfalso
            omega
          | succ n ih_29 =>
            intro j hj hn H locs ls hw hl
            refine lv_iload_n hx hb dX5_recover_29 rfl (lv_at hl 3 rfl) ?_
            refine lv_iconst (v := nI 2) hx hb dX5_recover_30 (by decide) ?_
            refine lv_icmp_ge (tgt := 102) hx hb dX5_recover_31 (by decide) (fun c_3 => ?_) (fun c_3 => ?_)
            · skip
              have c_3 : 2 ≤ j := (nI_leI (a := 2) (b := j) (by omega) (by omega)).mp c_3
              obtain rfl : 2 = j := by omega
              refine lv_iinc (v := nI (i + 1)) (lv' := [(2, .int (nI (i + 1))), (0, .ref (ad 0)), (1, .int (nI gg)), (3, .int (nI 2))]) hx hb dX5_recover_102 hl (k := 2) rfl (nI_inc _) (by decide) rfl (fun ls hl => ?_)
              refine lv_goto (tgt := 16) hx hb dX5_recover_105 (by decide) ?_
              have e9 : recS gg nr i (recB gg nr (uew (sI S 8 gg (nI 2)) 6) i) 2 = recB gg nr (uew (sI S 8 gg (nI 2)) 6) (i + 1) := rfl
              rw [e9] at hw
              exact ih_16 (i + 1) (by omega) (by omega) _ _ _ hw (lv_sub hl [1, 2, 0] rfl)
            · skip
              have c_3 : ¬ (2 ≤ j) := fun h9 => c_3 ((nI_leI (a := 2) (b := j) (by omega) (by omega)).mpr h9)
              refine lv_aload_n hx hb dX5_recover_34 rfl (lv_at hl 0 rfl) ?_
              refine wo_get hx hb hts inX5 hown hK hw 0 rfl rfl 4 (by decide) (hts _ wd_170) (fun _ h9 => h9) rfl dX5_recover_35 ?_
              refine lv_aload_n hx hb dX5_recover_38 rfl (lv_at hl 0 rfl) ?_
              refine wo_get hx hb hts inX5 hown hK hw 0 rfl rfl 1 (by decide) (hts _ wd_167) (fun _ h9 => h9) rfl dX5_recover_39 ?_
              refine lv_iload_n hx hb dX5_recover_42 rfl (lv_at hl 2 rfl) ?_
              refine lv_iload_n hx hb dX5_recover_43 rfl (lv_at hl 3 rfl) ?_
              refine lv_iload_n hx hb dX5_recover_44 rfl (lv_at hl 1 rfl) ?_
              refine wo_vL (As := [.int (nI i), .int (nI j), .int (nI gg)]) (rest := [.ref (ad 5)]) (kX0_emptyShare l dC dI ca ad (recS gg nr i (recB gg nr (uew (sI S 8 gg (nI 2)) 6) i) j) i j gg (by first | assumption | omega) (by first | assumption | omega) (by first | assumption | omega)) ⟨hx, hb, hml, hown, hts⟩ (cwV 3 hts (wa_gV wd_313 wd_314 wd_315 wd_4 wd_316) rfl rfl rfl (by decide +kernel) ⟨Nat.le_of_ble_eq_true rfl, Nat.le_of_ble_eq_true rfl⟩) hK hw hA 2 rfl rfl rfl rfl hl.1 rfl (Nat.le_of_ble_eq_true rfl) dX5_recover_45 ⟨Nat.zero_le _, Nat.zero_le _⟩ (fun r_4 S_4 H locs hp_4 hw => ?_)
              have e9 := hp_4.1.symm
              subst e9
              have e9 := hp_4.2.symm
              subst e9
              refine lv_aload_n hx hb dX5_recover_48 rfl (lv_at hl 0 rfl) ?_
              refine wo_get hx hb hts inX5 hown hK hw 0 rfl rfl 2 (by decide) (hts _ wd_168) (fun _ h9 => h9) rfl dX5_recover_49 ?_
              refine lv_iload_n hx hb dX5_recover_52 rfl (lv_at hl 2 rfl) ?_
              refine lv_iload_n hx hb dX5_recover_53 rfl (lv_at hl 3 rfl) ?_
              refine lv_iload_n hx hb dX5_recover_54 rfl (lv_at hl 1 rfl) ?_
              refine wo_vL (As := [.int (nI i), .int (nI j), .int (nI gg)]) (rest := [.long ((recS gg nr i (recB gg nr (uew (sI S 8 gg (nI 2)) 6) i) j).2 (14 + (i * 2 + j)) gg), .ref (ad 5)]) (kX3_callBack l dC dI ca ad (addSh (recS gg nr i (recB gg nr (uew (sI S 8 gg (nI 2)) 6) i) j) (i * 2 + j) gg (-(recS gg nr i (recB gg nr (uew (sI S 8 gg (nI 2)) 6) i) j).2 (14 + (i * 2 + j)) gg)) i j gg nr (by first | assumption | omega) (RI_recS (RI_recB hS0 i) j).2.2) ⟨hx, hb, hml, hown, hts⟩ (cwV 3 hts (wa_gV wd_317 wd_318 wd_319 wd_5 wd_320) rfl rfl rfl (by decide +kernel) ⟨Nat.le_of_ble_eq_true rfl, Nat.le_of_ble_eq_true rfl⟩) hK hw hA 3 rfl rfl rfl rfl hl.1 rfl (Nat.le_of_ble_eq_true rfl) dX5_recover_55 ⟨Nat.zero_le _, Nat.zero_le _⟩ (fun r_5 S_5 H locs hp_5 hw => ?_)
              have e9 := hp_5.1.symm
              subst e9
              have e9 := hp_5.2.symm
              subst e9
              refine lv_ladd hx hb dX5_recover_58 ?_
              refine wo_vV (As := [.long (((recS gg nr i (recB gg nr (uew (sI S 8 gg (nI 2)) 6) i) j).2 (14 + (i * 2 + j)) gg) + ((cbk (addSh (recS gg nr i (recB gg nr (uew (sI S 8 gg (nI 2)) 6) i) j) (i * 2 + j) gg (-(recS gg nr i (recB gg nr (uew (sI S 8 gg (nI 2)) 6) i) j).2 (14 + (i * 2 + j)) gg)) i j gg nr).2))]) (rest := []) (kX4_split l dC dI ca ad ((cbk (addSh (recS gg nr i (recB gg nr (uew (sI S 8 gg (nI 2)) 6) i) j) (i * 2 + j) gg (-(recS gg nr i (recB gg nr (uew (sI S 8 gg (nI 2)) 6) i) j).2 (14 + (i * 2 + j)) gg)) i j gg nr).1) (((recS gg nr i (recB gg nr (uew (sI S 8 gg (nI 2)) 6) i) j).2 (14 + (i * 2 + j)) gg) + ((cbk (addSh (recS gg nr i (recB gg nr (uew (sI S 8 gg (nI 2)) 6) i) j) (i * 2 + j) gg (-(recS gg nr i (recB gg nr (uew (sI S 8 gg (nI 2)) 6) i) j).2 (14 + (i * 2 + j)) gg)) i j gg nr).2))) ⟨hx, hb, hml, hown, hts⟩ (cwV 1 hts (wa_gV wd_326 wd_327 wd_328 wd_7 wd_329) rfl rfl rfl (by decide +kernel) ⟨Nat.le_of_ble_eq_true rfl, Nat.le_of_ble_eq_true rfl⟩) hK hw hA 5 rfl rfl rfl rfl hl.1 rfl (Nat.le_of_ble_eq_true rfl) dX5_recover_59 ⟨Nat.zero_le _, Nat.zero_le _⟩ (fun S_6 H locs hp_6 hw => ?_)
              have eS_6 := hp_6
              have hX0 : RI nb nr S_6 := by rw [eS_6]; exact RI_eq (RI_cbk (RI_eq (RI_recS (RI_recB hS0 i) j) (addSh_1 _ _ _ _))) (splF_1 _ _)
              refine lv_iconst (v := nI 0) hx hb dX5_recover_62 (by decide) ?_
              refine lv_istore (lv' := [(4, .int (nI 0)), (0, .ref (ad 0)), (1, .int (nI gg)), (2, .int (nI i)), (3, .int (nI j))]) hx hb dX5_recover_63 hl (by decide) rfl (fun ls hl => ?_)
              have lp_65 : ∀ (n : Nat) (q : Nat), q ≤ 6 → 7 ≤ q + n → ∀ (H : Heap) (locs : List Loc) (ls : Array Slot), wo_w (dC, dI) vwCl A s.heap (wc ca ad (rcvP i j S_6 q)) H locs → lv_has ls 5 [(0, .ref (ad 0)), (1, .int (nI gg)), (2, .int (nI i)), (3, .int (nI j)), (4, .int (nI q))] → W p l e ({ frames := 4, cells := 0, slots := 0, locals := 98 } : Room) s m ([.ref (ad 0), .int (nI gg)] : List Value).toArray below meth c H locs 0 0 (MQ below (va_Qv (fun S2 => S2 = recF S gg nb nr) (ct_B (dC, dI) vwCl (tyl ca) (wc ca ad) A) A) ([.ref (ad 0), .int (nI gg)] : List Value).toArray s 0 0 A) (F0 m 65 ls []) := by
                intro n
                induction n with
                | zero =>
                  intro q hq hn
                  exfalso
                  omega
                | succ n ih_65 =>
                  intro q hq hn H locs ls hw hl
                  refine lv_iload hx hb dX5_recover_65 (lv_at hl 4 rfl) ?_
                  refine lv_bipush (v := nI 6) hx hb dX5_recover_67 (by decide) ?_
                  refine lv_icmp_ge (tgt := 96) hx hb dX5_recover_69 (by decide) (fun c_7 => ?_) (fun c_7 => ?_)
                  · skip
                    have c_7 : 6 ≤ q := (nI_leI (a := 6) (b := q) (by omega) (by omega)).mp c_7
                    obtain rfl : 6 = q := by omega
                    refine lv_iinc (v := nI (j + 1)) (lv' := [(3, .int (nI (j + 1))), (0, .ref (ad 0)), (1, .int (nI gg)), (2, .int (nI i)), (4, .int (nI 6))]) hx hb dX5_recover_96 hl (k := 3) rfl (nI_inc _) (by decide) rfl (fun ls hl => ?_)
                    refine lv_goto (tgt := 29) hx hb dX5_recover_99 (by decide) ?_
                    have e9 : rcvP i j S_6 6 = recS gg nr i (recB gg nr (uew (sI S 8 gg (nI 2)) 6) i) (j + 1) := by rw [eS_6]; rfl
                    rw [e9] at hw
                    exact ih_29 (j + 1) (by omega) (by omega) _ _ _ hw (lv_sub hl [1, 2, 3, 0] rfl)
                  · skip
                    have c_7 : ¬ (6 ≤ q) := fun h9 => c_7 ((nI_leI (a := 6) (b := q) (by omega) (by omega)).mpr h9)
                    refine lv_aload_n hx hb dX5_recover_72 rfl (lv_at hl 0 rfl) ?_
                    refine lv_iload_n hx hb dX5_recover_73 rfl (lv_at hl 2 rfl) ?_
                    refine lv_iload_n hx hb dX5_recover_74 rfl (lv_at hl 3 rfl) ?_
                    refine lv_iload hx hb dX5_recover_75 (lv_at hl 4 rfl) ?_
                    refine lv_aload_n hx hb dX5_recover_77 rfl (lv_at hl 0 rfl) ?_
                    refine wo_get hx hb hts inX5 hown hK hw 0 rfl rfl 4 (by decide) (hts _ wd_170) (fun _ h9 => h9) rfl dX5_recover_78 ?_
                    refine wo_get hx hb hts inX4 hown hK hw 5 rfl rfl 1 (by decide) (hts _ wd_157) (fun _ h9 => h9) rfl dX5_recover_81 ?_
                    refine lv_iload hx hb dX5_recover_84 (lv_at hl 4 rfl) ?_
                    refine wo_lald hx hb hK hw 50 1 rfl rfl q rfl (by first | assumption | omega) (by decide) dX5_recover_86 ?_
                    refine wo_vV (As := [.int (nI i), .int (nI j), .int (nI q), .long ((rcvP i j S_6 q).2 50 q)]) (rest := []) (kX5_receive l dC dI ca ad (rcvP i j S_6 q) i j q ((rcvP i j S_6 q).2 50 q) nb nr (by first | assumption | omega) (by first | assumption | omega) (by first | assumption | omega) (RI_rcvP hX0 q (by omega))) ⟨hx, hb, hml, hown, hts⟩ (cwV 4 hts (wa_gV wd_277 wd_279 ws_3 wd_1 wd_280) rfl rfl rfl (by decide +kernel) ⟨Nat.le_of_ble_eq_true rfl, Nat.le_of_ble_eq_true rfl⟩) hK hw hA 0 rfl rfl rfl rfl hl.1 rfl (Nat.le_of_ble_eq_true rfl) dX5_recover_87 ⟨Nat.zero_le _, Nat.zero_le _⟩ (fun S_8 H locs hp_8 hw => ?_)
                    have eS_8 := hp_8
                    refine lv_iinc (v := nI (q + 1)) (lv' := [(4, .int (nI (q + 1))), (0, .ref (ad 0)), (1, .int (nI gg)), (2, .int (nI i)), (3, .int (nI j))]) hx hb dX5_recover_90 hl (k := 4) rfl (nI_inc _) (by decide) rfl (fun ls hl => ?_)
                    refine lv_goto (tgt := 65) hx hb dX5_recover_93 (by decide) ?_
                    have e9 : S_8 = rcvP i j S_6 (q + 1) := by rw [eS_8]; rfl
                    rw [e9] at hw
                    exact ih_65 (q + 1) (by omega) (by omega) _ _ _ hw (lv_sub hl [1, 2, 3, 4, 0] rfl)
              have e9 : S_6 = rcvP i j S_6 0 := rfl
              rw [e9] at hw
              exact lp_65 7 0 (by omega) (by omega) _ _ _ hw (lv_sub hl [1, 2, 3, 4, 0] rfl)
        have e9 : recB gg nr (uew (sI S 8 gg (nI 2)) 6) i = recS gg nr i (recB gg nr (uew (sI S 8 gg (nI 2)) 6) i) 0 := rfl
        rw [e9] at hw
        exact lp_29 3 0 (by omega) (by omega) _ _ _ hw (lv_sub hl [1, 2, 3, 0] rfl)
  have e9 : uew (sI S 8 gg (nI 2)) 6 = recB gg nr (uew (sI S 8 gg (nI 2)) 6) 0 := rfl
  rw [e9] at hw
  exact lp_16 (nb + 1) 0 (by omega) (by omega) _ _ _ hw (lv_sub hl [1, 2, 0] rfl)
