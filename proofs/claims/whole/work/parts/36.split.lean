theorem dJ7_fill_0 : decode cJ7_fill 0 = .ok (.iconst 0, 1) := by decide +kernel
theorem dJ7_fill_1 : decode cJ7_fill 1 = .ok (.istore_n 3, 1) := by decide +kernel
theorem dJ7_fill_2 : decode cJ7_fill 2 = .ok (.aload_n 0, 1) := by decide +kernel
theorem dJ7_fill_3 : decode cJ7_fill 3 = .ok (.arraylength, 1) := by decide +kernel
theorem dJ7_fill_4 : decode cJ7_fill 4 = .ok (.istore 4, 2) := by decide +kernel
theorem dJ7_fill_6 : decode cJ7_fill 6 = .ok (.iload_n 3, 1) := by decide +kernel
theorem dJ7_fill_7 : decode cJ7_fill 7 = .ok (.iload 4, 2) := by decide +kernel
theorem dJ7_fill_9 : decode cJ7_fill 9 = .ok (.if_icmp .ge 13, 3) := by decide +kernel
theorem dJ7_fill_12 : decode cJ7_fill 12 = .ok (.aload_n 0, 1) := by decide +kernel
theorem dJ7_fill_13 : decode cJ7_fill 13 = .ok (.iload_n 3, 1) := by decide +kernel
theorem dJ7_fill_14 : decode cJ7_fill 14 = .ok (.lload_n 1, 1) := by decide +kernel
theorem dJ7_fill_15 : decode cJ7_fill 15 = .ok (.lastore, 1) := by decide +kernel
theorem dJ7_fill_16 : decode cJ7_fill 16 = .ok (.iinc 3 1, 3) := by decide +kernel
theorem dJ7_fill_19 : decode cJ7_fill 19 = .ok (.goto (-13), 3) := by decide +kernel
theorem dJ7_fill_22 : decode cJ7_fill 22 = .ok (.return_, 1) := by decide +kernel

theorem dX4_split_0 : decode cX4_split 0 = .ok (.aload_n 0, 1) := by decide +kernel
theorem dX4_split_1 : decode cX4_split 1 = .ok (.invokevirtual 21, 3) := by decide +kernel
theorem dX4_split_4 : decode cX4_split 4 = .ok (.lstore_n 3, 1) := by decide +kernel
theorem dX4_split_5 : decode cX4_split 5 = .ok (.lload_n 3, 1) := by decide +kernel
theorem dX4_split_6 : decode cX4_split 6 = .ok (.lconst 0, 1) := by decide +kernel
theorem dX4_split_7 : decode cX4_split 7 = .ok (.lcmp, 1) := by decide +kernel
theorem dX4_split_8 : decode cX4_split 8 = .ok (.ifCond .gt 12, 3) := by decide +kernel
theorem dX4_split_11 : decode cX4_split 11 = .ok (.aload_n 0, 1) := by decide +kernel
theorem dX4_split_12 : decode cX4_split 12 = .ok (.getfield 15, 3) := by decide +kernel
theorem dX4_split_15 : decode cX4_split 15 = .ok (.lconst 0, 1) := by decide +kernel
theorem dX4_split_16 : decode cX4_split 16 = .ok (.invokestatic 25, 3) := by decide +kernel
theorem dX4_split_19 : decode cX4_split 19 = .ok (.return_, 1) := by decide +kernel
theorem dX4_split_20 : decode cX4_split 20 = .ok (.lload_n 1, 1) := by decide +kernel
theorem dX4_split_21 : decode cX4_split 21 = .ok (.lstore 5, 2) := by decide +kernel
theorem dX4_split_23 : decode cX4_split 23 = .ok (.iconst 0, 1) := by decide +kernel
theorem dX4_split_24 : decode cX4_split 24 = .ok (.istore 7, 2) := by decide +kernel
theorem dX4_split_26 : decode cX4_split 26 = .ok (.iload 7, 2) := by decide +kernel
theorem dX4_split_28 : decode cX4_split 28 = .ok (.bipush 6, 2) := by decide +kernel
theorem dX4_split_30 : decode cX4_split 30 = .ok (.if_icmp .ge 54, 3) := by decide +kernel
theorem dX4_split_33 : decode cX4_split 33 = .ok (.lload_n 1, 1) := by decide +kernel
theorem dX4_split_34 : decode cX4_split 34 = .ok (.aload_n 0, 1) := by decide +kernel
theorem dX4_split_35 : decode cX4_split 35 = .ok (.getfield 9, 3) := by decide +kernel
theorem dX4_split_38 : decode cX4_split 38 = .ok (.iload 7, 2) := by decide +kernel
theorem dX4_split_40 : decode cX4_split 40 = .ok (.laload, 1) := by decide +kernel
theorem dX4_split_41 : decode cX4_split 41 = .ok (.lmul, 1) := by decide +kernel
theorem dX4_split_42 : decode cX4_split 42 = .ok (.lstore 8, 2) := by decide +kernel
theorem dX4_split_44 : decode cX4_split 44 = .ok (.aload_n 0, 1) := by decide +kernel
theorem dX4_split_45 : decode cX4_split 45 = .ok (.getfield 15, 3) := by decide +kernel
theorem dX4_split_48 : decode cX4_split 48 = .ok (.iload 7, 2) := by decide +kernel
theorem dX4_split_50 : decode cX4_split 50 = .ok (.lload 8, 2) := by decide +kernel
theorem dX4_split_52 : decode cX4_split 52 = .ok (.lload_n 3, 1) := by decide +kernel
theorem dX4_split_53 : decode cX4_split 53 = .ok (.ldiv, 1) := by decide +kernel
theorem dX4_split_54 : decode cX4_split 54 = .ok (.lastore, 1) := by decide +kernel
theorem dX4_split_55 : decode cX4_split 55 = .ok (.aload_n 0, 1) := by decide +kernel
theorem dX4_split_56 : decode cX4_split 56 = .ok (.getfield 18, 3) := by decide +kernel
theorem dX4_split_59 : decode cX4_split 59 = .ok (.iload 7, 2) := by decide +kernel
theorem dX4_split_61 : decode cX4_split 61 = .ok (.lload 8, 2) := by decide +kernel
theorem dX4_split_63 : decode cX4_split 63 = .ok (.lload_n 3, 1) := by decide +kernel
theorem dX4_split_64 : decode cX4_split 64 = .ok (.lrem, 1) := by decide +kernel
theorem dX4_split_65 : decode cX4_split 65 = .ok (.lastore, 1) := by decide +kernel
theorem dX4_split_66 : decode cX4_split 66 = .ok (.lload 5, 2) := by decide +kernel
theorem dX4_split_68 : decode cX4_split 68 = .ok (.aload_n 0, 1) := by decide +kernel
theorem dX4_split_69 : decode cX4_split 69 = .ok (.getfield 15, 3) := by decide +kernel
theorem dX4_split_72 : decode cX4_split 72 = .ok (.iload 7, 2) := by decide +kernel
theorem dX4_split_74 : decode cX4_split 74 = .ok (.laload, 1) := by decide +kernel
theorem dX4_split_75 : decode cX4_split 75 = .ok (.lsub, 1) := by decide +kernel
theorem dX4_split_76 : decode cX4_split 76 = .ok (.lstore 5, 2) := by decide +kernel
theorem dX4_split_78 : decode cX4_split 78 = .ok (.iinc 7 1, 3) := by decide +kernel
theorem dX4_split_81 : decode cX4_split 81 = .ok (.goto (-55), 3) := by decide +kernel
theorem dX4_split_84 : decode cX4_split 84 = .ok (.iconst 0, 1) := by decide +kernel
theorem dX4_split_85 : decode cX4_split 85 = .ok (.istore 7, 2) := by decide +kernel
theorem dX4_split_87 : decode cX4_split 87 = .ok (.iload 7, 2) := by decide +kernel
theorem dX4_split_89 : decode cX4_split 89 = .ok (.bipush 6, 2) := by decide +kernel
theorem dX4_split_91 : decode cX4_split 91 = .ok (.if_icmp .ge 49, 3) := by decide +kernel
theorem dX4_split_94 : decode cX4_split 94 = .ok (.lload 5, 2) := by decide +kernel
theorem dX4_split_96 : decode cX4_split 96 = .ok (.lconst 0, 1) := by decide +kernel
theorem dX4_split_97 : decode cX4_split 97 = .ok (.lcmp, 1) := by decide +kernel
theorem dX4_split_98 : decode cX4_split 98 = .ok (.ifCond .le 42, 3) := by decide +kernel
theorem dX4_split_101 : decode cX4_split 101 = .ok (.aload_n 0, 1) := by decide +kernel
theorem dX4_split_102 : decode cX4_split 102 = .ok (.invokevirtual 31, 3) := by decide +kernel
theorem dX4_split_105 : decode cX4_split 105 = .ok (.istore 8, 2) := by decide +kernel
theorem dX4_split_107 : decode cX4_split 107 = .ok (.aload_n 0, 1) := by decide +kernel
theorem dX4_split_108 : decode cX4_split 108 = .ok (.getfield 15, 3) := by decide +kernel
theorem dX4_split_111 : decode cX4_split 111 = .ok (.iload 8, 2) := by decide +kernel
theorem dX4_split_113 : decode cX4_split 113 = .ok (.dup2, 1) := by decide +kernel
theorem dX4_split_114 : decode cX4_split 114 = .ok (.laload, 1) := by decide +kernel
theorem dX4_split_115 : decode cX4_split 115 = .ok (.lconst 1, 1) := by decide +kernel
theorem dX4_split_116 : decode cX4_split 116 = .ok (.ladd, 1) := by decide +kernel
theorem dX4_split_117 : decode cX4_split 117 = .ok (.lastore, 1) := by decide +kernel
theorem dX4_split_118 : decode cX4_split 118 = .ok (.aload_n 0, 1) := by decide +kernel
theorem dX4_split_119 : decode cX4_split 119 = .ok (.getfield 18, 3) := by decide +kernel
theorem dX4_split_122 : decode cX4_split 122 = .ok (.iload 8, 2) := by decide +kernel
theorem dX4_split_124 : decode cX4_split 124 = .ok (.ldc2_w 35, 3) := by decide +kernel
theorem dX4_split_127 : decode cX4_split 127 = .ok (.lastore, 1) := by decide +kernel
theorem dX4_split_128 : decode cX4_split 128 = .ok (.lload 5, 2) := by decide +kernel
theorem dX4_split_130 : decode cX4_split 130 = .ok (.lconst 1, 1) := by decide +kernel
theorem dX4_split_131 : decode cX4_split 131 = .ok (.lsub, 1) := by decide +kernel
theorem dX4_split_132 : decode cX4_split 132 = .ok (.lstore 5, 2) := by decide +kernel
theorem dX4_split_134 : decode cX4_split 134 = .ok (.iinc 7 1, 3) := by decide +kernel
theorem dX4_split_137 : decode cX4_split 137 = .ok (.goto (-50), 3) := by decide +kernel
theorem dX4_split_140 : decode cX4_split 140 = .ok (.return_, 1) := by decide +kernel

set_option maxHeartbeats 4000000 in
set_option maxRecDepth 100000 in
theorem kJ7_fill (l : Launch) (dC : Nat → ClassId) (dI : Nat → Nat → Nat) (ca : Nat → ClassId) (ad : Nat → Nat) (S : sSt) (vv : Int64) : ct_V l yJ7_fill (Cond.code yJ7_fill cJ7_fill 5 none :: wa_T) ({ frames := 0, cells := 0, slots := 0, locals := 0 } : Room) (dC, dI) vwCl (tyl ca) (wc ca ad) S [.ref (ad 50), .long vv] (fun S2 => S2 = flL S vv 6) := by
  refine ct_ofV (by decide) (Nat.le_of_ble_eq_true rfl) ?_
  intro p e s m below meth c A ls hx hb hr hml hts hown hlocks hK hA hw hl
  have hl : lv_has ls 5 [(0, .ref (ad 50)), (1, .long vv)] := hl
  refine lv_iconst (v := nI 0) hx hb dJ7_fill_0 (by decide) ?_
  refine lv_istore_n (lv' := [(3, .int (nI 0)), (0, .ref (ad 50)), (1, .long vv)]) hx hb dJ7_fill_1 rfl hl (by decide) rfl (fun ls hl => ?_)
  refine lv_aload_n hx hb dJ7_fill_2 rfl (lv_at hl 1 rfl) ?_
  refine wo_alen hx hb hK hw 50 1 rfl rfl dJ7_fill_3 ?_
  refine lv_istore (lv' := [(4, .int (nI 6)), (3, .int (nI 0)), (0, .ref (ad 50)), (1, .long vv)]) hx hb dJ7_fill_4 hl (by decide) rfl (fun ls hl => ?_)
  have lp_6 : ∀ (n : Nat) (i : Nat), i ≤ 6 → 7 ≤ i + n → ∀ (H : Heap) (locs : List Loc) (ls : Array Slot), wo_w (dC, dI) vwCl A s.heap (wc ca ad (flL S vv i)) H locs → lv_has ls 5 [(0, .ref (ad 50)), (1, .long vv), (3, .int (nI i)), (4, .int (nI 6))] → W p l e ({ frames := 0, cells := 0, slots := 0, locals := 0 } : Room) s m ([.ref (ad 50), .long vv] : List Value).toArray below meth c H locs 0 0 (MQ below (va_Qv (fun S2 => S2 = flL S vv 6) (ct_B (dC, dI) vwCl (tyl ca) (wc ca ad) A) A) ([.ref (ad 50), .long vv] : List Value).toArray s 0 0 A) (F0 m 6 ls []) := by
    intro n
    induction n with
    | zero =>
      intro i hi hn
      exfalso
      omega
    | succ n ih_6 =>
      intro i hi hn H locs ls hw hl
      refine lv_iload_n hx hb dJ7_fill_6 rfl (lv_at hl 2 rfl) ?_
      refine lv_iload hx hb dJ7_fill_7 (lv_at hl 3 rfl) ?_
      refine lv_icmp_ge (tgt := 22) hx hb dJ7_fill_9 (by decide) (fun c_1 => ?_) (fun c_1 => ?_)
      · skip
        have c_1 : 6 ≤ i := (nI_leI (a := 6) (b := i) (by omega) (by omega)).mp c_1
        obtain rfl : 6 = i := by omega
        exact ct_vret (S := flL S vv 6) hx hb hr hlocks hK hw (rfl) dJ7_fill_22
      · skip
        have c_1 : ¬ (6 ≤ i) := fun h9 => c_1 ((nI_leI (a := 6) (b := i) (by omega) (by omega)).mpr h9)
        refine lv_aload_n hx hb dJ7_fill_12 rfl (lv_at hl 0 rfl) ?_
        refine lv_iload_n hx hb dJ7_fill_13 rfl (lv_at hl 2 rfl) ?_
        refine lv_lload_n hx hb dJ7_fill_14 rfl (lv_at hl 1 rfl) ?_
        refine wo_last hx hb hK hw 50 1 rfl rfl i rfl (by first | assumption | omega) (by decide) (se_50 ca ad (flL S vv i) i vv) dJ7_fill_15 (fun H locs hw => ?_)
        refine lv_iinc (v := nI (i + 1)) (lv' := [(3, .int (nI (i + 1))), (0, .ref (ad 50)), (1, .long vv), (4, .int (nI 6))]) hx hb dJ7_fill_16 hl (k := 2) rfl (nI_inc _) (by decide) rfl (fun ls hl => ?_)
        refine lv_goto (tgt := 6) hx hb dJ7_fill_19 (by decide) ?_
        have e9 : sL (flL S vv i) 50 i vv = flL S vv (i + 1) := rfl
        rw [e9] at hw
        exact ih_6 (i + 1) (by omega) (by omega) _ _ _ hw (lv_sub hl [1, 2, 0, 3] rfl)
  have e9 : S = flL S vv 0 := rfl
  rw [e9] at hw
  exact lp_6 7 0 (by omega) (by omega) _ _ _ hw (lv_sub hl [2, 3, 1, 0] rfl)

set_option maxHeartbeats 4000000 in
set_option maxRecDepth 100000 in
theorem kX4_split (l : Launch) (dC : Nat → ClassId) (dI : Nat → Nat → Nat) (ca : Nat → ClassId) (ad : Nat → Nat) (S : sSt) (room : Int64) : ct_V l yX4_split (Cond.code yX4_split cX4_split 10 none :: wa_T) ({ frames := 1, cells := 0, slots := 0, locals := 24 } : Room) (dC, dI) vwCl (tyl ca) (wc ca ad) S [.ref (ad 5), .long room] (fun S2 => S2 = splF S room) := by
  refine ct_ofV (by decide) (Nat.le_of_ble_eq_true rfl) ?_
  intro p e s m below meth c A ls hx hb hr hml hts hown hlocks hK hA hw hl
  have hl : lv_has ls 10 [(0, .ref (ad 5)), (1, .long room)] := hl
  refine lv_aload_n hx hb dX4_split_0 rfl (lv_at hl 0 rfl) ?_
  refine wo_vL (As := []) (rest := []) (kX4_allWeights l dC dI ca ad S ) ⟨hx, hb, hml, hown, hts⟩ (cwV 0 hts (wa_gV wd_330 wd_331 wd_332 wd_7 wd_333) rfl rfl rfl (by decide +kernel) ⟨Nat.le_of_ble_eq_true rfl, Nat.le_of_ble_eq_true rfl⟩) hK hw hA 5 rfl rfl rfl rfl hl.1 rfl (Nat.le_of_ble_eq_true rfl) dX4_split_1 ⟨Nat.zero_le _, Nat.zero_le _⟩ (fun r_1 S_1 H locs hp_1 hw => ?_)
  have e9 := hp_1.1.symm
  subst e9
  have e9 := hp_1.2.symm
  subst e9
  refine lv_lstore_n (lv' := [(3, .long (sumW S 6)), (0, .ref (ad 5)), (1, .long room)]) hx hb dX4_split_4 rfl hl (by decide) rfl (fun ls hl => ?_)
  refine lv_lload_n hx hb dX4_split_5 rfl (lv_at hl 0 rfl) ?_
  refine lv_lconst (v := 0) hx hb dX4_split_6 (by decide) ?_
  refine lc_gt (tgt := 20) hx hb dX4_split_7 dX4_split_8 (by decide) (fun c_2 => ?_) (fun c_2 => ?_)
  · skip
    have hall := c_2
    have hne : ¬ sumW S 6 = 0 := fun e => by rw [e] at hall; exact absurd hall (by decide)
    refine lv_lload_n hx hb dX4_split_20 rfl (lv_at hl 2 rfl) ?_
    refine lv_lstore (lv' := [(5, .long room), (3, .long (sumW S 6)), (0, .ref (ad 5)), (1, .long room)]) hx hb dX4_split_21 hl (by decide) rfl (fun ls hl => ?_)
    refine lv_iconst (v := nI 0) hx hb dX4_split_23 (by decide) ?_
    refine lv_istore (lv' := [(7, .int (nI 0)), (5, .long room), (3, .long (sumW S 6)), (0, .ref (ad 5)), (1, .long room)]) hx hb dX4_split_24 hl (by decide) rfl (fun ls hl => ?_)
    have lp_26 : ∀ (n : Nat) (i : Nat), i ≤ 6 → 7 ≤ i + n → ∀ (H : Heap) (locs : List Loc) (ls : Array Slot), wo_w (dC, dI) vwCl A s.heap (wc ca ad ((spl1 S room (sumW S 6) i).1)) H locs → lv_has ls 10 [(0, .ref (ad 5)), (1, .long room), (3, .long (sumW S 6)), (5, .long ((spl1 S room (sumW S 6) i).2)), (7, .int (nI i))] → W p l e ({ frames := 1, cells := 0, slots := 0, locals := 24 } : Room) s m ([.ref (ad 5), .long room] : List Value).toArray below meth c H locs 0 0 (MQ below (va_Qv (fun S2 => S2 = splF S room) (ct_B (dC, dI) vwCl (tyl ca) (wc ca ad) A) A) ([.ref (ad 5), .long room] : List Value).toArray s 0 0 A) (F0 m 26 ls []) := by
      intro n
      induction n with
      | zero =>
        intro i hi hn
        exfalso
        omega
      | succ n ih_26 =>
        intro i hi hn H locs ls hw hl
        refine lv_iload hx hb dX4_split_26 (lv_at hl 4 rfl) ?_
        refine lv_bipush (v := nI 6) hx hb dX4_split_28 (by decide) ?_
        refine lv_icmp_ge (tgt := 84) hx hb dX4_split_30 (by decide) (fun c_3 => ?_) (fun c_3 => ?_)
        · skip
          have c_3 : 6 ≤ i := (nI_leI (a := 6) (b := i) (by omega) (by omega)).mp c_3
          obtain rfl : 6 = i := by omega
          refine lv_iconst (v := nI 0) hx hb dX4_split_84 (by decide) ?_
          refine lv_istore (lv' := [(7, .int (nI 0)), (0, .ref (ad 5)), (1, .long room), (3, .long (sumW S 6)), (5, .long ((spl1 S room (sumW S 6) 6).2))]) hx hb dX4_split_85 hl (by decide) rfl (fun ls hl => ?_)
          have lp_87 : ∀ (n : Nat) (i : Nat) (X : sSt × Int64), i ≤ 6 → 7 ≤ i + n → spl2 (6 - i) X = spl2 6 (spl1 S room (sumW S 6) 6) → ∀ (H : Heap) (locs : List Loc) (ls : Array Slot), wo_w (dC, dI) vwCl A s.heap (wc ca ad X.1) H locs → lv_has ls 10 [(0, .ref (ad 5)), (5, .long X.2), (7, .int (nI i))] → W p l e ({ frames := 1, cells := 0, slots := 0, locals := 24 } : Room) s m ([.ref (ad 5), .long room] : List Value).toArray below meth c H locs 0 0 (MQ below (va_Qv (fun S2 => S2 = splF S room) (ct_B (dC, dI) vwCl (tyl ca) (wc ca ad) A) A) ([.ref (ad 5), .long room] : List Value).toArray s 0 0 A) (F0 m 87 ls []) := by
            intro n
            induction n with
            | zero =>
              intro i X hi hn hrem
              exfalso
              omega
            | succ n ih_87 =>
              intro i X hi hn hrem H locs ls hw hl
              have hg := gRest_le X.1 5
              refine lv_iload hx hb dX4_split_87 (lv_at hl 2 rfl) ?_
              refine lv_bipush (v := nI 6) hx hb dX4_split_89 (by decide) ?_
              refine lv_icmp_ge (tgt := 140) hx hb dX4_split_91 (by decide) (fun c_4 => ?_) (fun c_4 => ?_)
              · skip
                have c_4 : 6 ≤ i := (nI_leI (a := 6) (b := i) (by omega) (by omega)).mp c_4
                have hX := spl2_end hrem (by omega)
                exact ct_vret (S := X.1) hx hb hr hlocks hK hw (by rw [splF, if_pos hall, ← hX]) dX4_split_140
              · skip
                have c_4 : ¬ (6 ≤ i) := fun h9 => c_4 ((nI_leI (a := 6) (b := i) (by omega) (by omega)).mpr h9)
                refine lv_lload hx hb dX4_split_94 (lv_at hl 1 rfl) ?_
                refine lv_lconst (v := 0) hx hb dX4_split_96 (by decide) ?_
                refine lc_le (tgt := 140) hx hb dX4_split_97 dX4_split_98 (by decide) (fun c_5 => ?_) (fun c_5 => ?_)
                · skip
                  have hX := spl2_stop hrem c_5
                  exact ct_vret (S := X.1) hx hb hr hlocks hK hw (by rw [splF, if_pos hall, ← hX]) dX4_split_140
                · skip
                  refine lv_aload_n hx hb dX4_split_101 rfl (lv_at hl 0 rfl) ?_
                  refine wo_vI (As := []) (rest := []) (kX4_greatestRest l dC dI ca ad X.1 ) ⟨hx, hb, hml, hown, hts⟩ (cwV 0 hts (wa_gV wd_335 wd_337 ws_7 wd_7 wd_338) rfl rfl rfl (by decide +kernel) ⟨Nat.le_of_ble_eq_true rfl, Nat.le_of_ble_eq_true rfl⟩) hK hw hA 5 rfl rfl rfl rfl hl.1 rfl (Nat.le_of_ble_eq_true rfl) dX4_split_102 ⟨Nat.zero_le _, Nat.zero_le _⟩ (fun r_6 S_6 H locs hp_6 hw => ?_)
                  have e9 := hp_6.1.symm
                  subst e9
                  have e9 := hp_6.2.symm
                  subst e9
                  refine lv_istore (lv' := [(8, .int (nI (gRest X.1 5))), (0, .ref (ad 5)), (5, .long X.2), (7, .int (nI i))]) hx hb dX4_split_105 hl (by decide) rfl (fun ls hl => ?_)
                  refine lv_aload_n hx hb dX4_split_107 rfl (lv_at hl 1 rfl) ?_
                  refine wo_get hx hb hts inX4 hown hK hw 5 rfl rfl 1 (by decide) (hts _ wd_156) (fun _ h9 => h9) rfl dX4_split_108 ?_
                  refine lv_iload hx hb dX4_split_111 (lv_at hl 0 rfl) ?_
                  refine lv_dup2_11 hx hb dX4_split_113 rfl rfl ?_
                  refine wo_lald hx hb hK hw 50 1 rfl rfl (gRest X.1 5) rfl (by first | assumption | omega) (by decide) dX4_split_114 ?_
                  refine lv_lconst (v := 1) hx hb dX4_split_115 (by decide) ?_
                  refine lv_ladd hx hb dX4_split_116 ?_
                  refine wo_last hx hb hK hw 50 1 rfl rfl (gRest X.1 5) rfl (by first | assumption | omega) (by decide) (se_50 ca ad X.1 (gRest X.1 5) ((X.1.2 50 (gRest X.1 5)) + 1)) dX4_split_117 (fun H locs hw => ?_)
                  refine lv_aload_n hx hb dX4_split_118 rfl (lv_at hl 1 rfl) ?_
                  refine wo_get hx hb hts inX4 hown hK hw 5 rfl rfl 2 (by decide) (hts _ wd_158) (fun _ h9 => h9) rfl dX4_split_119 ?_
                  refine lv_iload hx hb dX4_split_122 (lv_at hl 0 rfl) ?_
                  refine lv_ldc2 hx hb hown (hts _ wd_339) dX4_split_124 ?_
                  refine wo_last hx hb hK hw 51 1 rfl rfl (gRest X.1 5) rfl (by first | assumption | omega) (by decide) (se_51 ca ad (sL X.1 50 (gRest X.1 5) ((X.1.2 50 (gRest X.1 5)) + 1)) (gRest X.1 5) (-1)) dX4_split_127 (fun H locs hw => ?_)
                  refine lv_lload hx hb dX4_split_128 (lv_at hl 2 rfl) ?_
                  refine lv_lconst (v := 1) hx hb dX4_split_130 (by decide) ?_
                  refine lv_lsub hx hb dX4_split_131 ?_
                  refine lv_lstore (lv' := [(5, .long (X.2 - 1)), (8, .int (nI (gRest X.1 5))), (0, .ref (ad 5)), (7, .int (nI i))]) hx hb dX4_split_132 hl (by decide) rfl (fun ls hl => ?_)
                  refine lv_iinc (v := nI (i + 1)) (lv' := [(7, .int (nI (i + 1))), (5, .long (X.2 - 1)), (8, .int (nI (gRest X.1 5))), (0, .ref (ad 5))]) hx hb dX4_split_134 hl (k := 3) rfl (nI_inc _) (by decide) rfl (fun ls hl => ?_)
                  refine lv_goto (tgt := 87) hx hb dX4_split_137 (by decide) ?_
                  have e9 : X.2 - 1 = (sp2 X).2 := rfl
                  rw [e9] at hl
                  have e9 : sL (sL X.1 50 (gRest X.1 5) ((X.1.2 50 (gRest X.1 5)) + 1)) 51 (gRest X.1 5) (-1) = (sp2 X).1 := rfl
                  rw [e9] at hw
                  exact ih_87 (i + 1) (sp2 X) (by omega) (by omega) (spl2_step hrem (by omega) c_5) _ _ _ hw (lv_sub hl [3, 1, 0] rfl)
          exact lp_87 7 0 (spl1 S room (sumW S 6) 6) (by omega) (by omega) rfl _ _ _ hw (lv_sub hl [1, 4, 0] rfl)
        · skip
          have c_3 : ¬ (6 ≤ i) := fun h9 => c_3 ((nI_leI (a := 6) (b := i) (by omega) (by omega)).mpr h9)
          refine lv_lload_n hx hb dX4_split_33 rfl (lv_at hl 1 rfl) ?_
          refine lv_aload_n hx hb dX4_split_34 rfl (lv_at hl 0 rfl) ?_
          refine wo_get hx hb hts inX4 hown hK hw 5 rfl rfl 0 (by decide) (hts _ wd_154) (fun _ h9 => h9) rfl dX4_split_35 ?_
          refine lv_iload hx hb dX4_split_38 (lv_at hl 4 rfl) ?_
          refine wo_lald hx hb hK hw 49 1 rfl rfl i rfl (by first | assumption | omega) (by decide) dX4_split_40 ?_
          refine lv_lmul hx hb dX4_split_41 ?_
          refine lv_lstore (lv' := [(8, .long (room * (((spl1 S room (sumW S 6) i).1).2 49 i))), (0, .ref (ad 5)), (1, .long room), (3, .long (sumW S 6)), (5, .long ((spl1 S room (sumW S 6) i).2)), (7, .int (nI i))]) hx hb dX4_split_42 hl (by decide) rfl (fun ls hl => ?_)
          refine lv_aload_n hx hb dX4_split_44 rfl (lv_at hl 1 rfl) ?_
          refine wo_get hx hb hts inX4 hown hK hw 5 rfl rfl 1 (by decide) (hts _ wd_156) (fun _ h9 => h9) rfl dX4_split_45 ?_
          refine lv_iload hx hb dX4_split_48 (lv_at hl 5 rfl) ?_
          refine lv_lload hx hb dX4_split_50 (lv_at hl 0 rfl) ?_
          refine lv_lload_n hx hb dX4_split_52 rfl (lv_at hl 3 rfl) ?_
          refine lv_ldiv hx hb dX4_split_53 (by first | assumption | omega) ?_
          refine wo_last hx hb hK hw 50 1 rfl rfl i rfl (by first | assumption | omega) (by decide) (se_50 ca ad ((spl1 S room (sumW S 6) i).1) i ((room * (((spl1 S room (sumW S 6) i).1).2 49 i)) / (sumW S 6))) dX4_split_54 (fun H locs hw => ?_)
          refine lv_aload_n hx hb dX4_split_55 rfl (lv_at hl 1 rfl) ?_
          refine wo_get hx hb hts inX4 hown hK hw 5 rfl rfl 2 (by decide) (hts _ wd_158) (fun _ h9 => h9) rfl dX4_split_56 ?_
          refine lv_iload hx hb dX4_split_59 (lv_at hl 5 rfl) ?_
          refine lv_lload hx hb dX4_split_61 (lv_at hl 0 rfl) ?_
          refine lv_lload_n hx hb dX4_split_63 rfl (lv_at hl 3 rfl) ?_
          refine lv_lrem hx hb dX4_split_64 (by first | assumption | omega) ?_
          refine wo_last hx hb hK hw 51 1 rfl rfl i rfl (by first | assumption | omega) (by decide) (se_51 ca ad (sL ((spl1 S room (sumW S 6) i).1) 50 i ((room * (((spl1 S room (sumW S 6) i).1).2 49 i)) / (sumW S 6))) i ((room * (((spl1 S room (sumW S 6) i).1).2 49 i)) - (room * (((spl1 S room (sumW S 6) i).1).2 49 i)) / (sumW S 6) * (sumW S 6))) dX4_split_65 (fun H locs hw => ?_)
          refine lv_lload hx hb dX4_split_66 (lv_at hl 4 rfl) ?_
          refine lv_aload_n hx hb dX4_split_68 rfl (lv_at hl 1 rfl) ?_
          refine wo_get hx hb hts inX4 hown hK hw 5 rfl rfl 1 (by decide) (hts _ wd_156) (fun _ h9 => h9) rfl dX4_split_69 ?_
          refine lv_iload hx hb dX4_split_72 (lv_at hl 5 rfl) ?_
          refine wo_lald hx hb hK hw 50 1 rfl rfl i rfl (by first | assumption | omega) (by decide) dX4_split_74 ?_
          refine lv_lsub hx hb dX4_split_75 ?_
          refine lv_lstore (lv' := [(5, .long (((spl1 S room (sumW S 6) i).2) - ((sL (sL ((spl1 S room (sumW S 6) i).1) 50 i ((room * (((spl1 S room (sumW S 6) i).1).2 49 i)) / (sumW S 6))) 51 i ((room * (((spl1 S room (sumW S 6) i).1).2 49 i)) - (room * (((spl1 S room (sumW S 6) i).1).2 49 i)) / (sumW S 6) * (sumW S 6))).2 50 i))), (8, .long (room * (((spl1 S room (sumW S 6) i).1).2 49 i))), (0, .ref (ad 5)), (1, .long room), (3, .long (sumW S 6)), (7, .int (nI i))]) hx hb dX4_split_76 hl (by decide) rfl (fun ls hl => ?_)
          refine lv_iinc (v := nI (i + 1)) (lv' := [(7, .int (nI (i + 1))), (5, .long (((spl1 S room (sumW S 6) i).2) - ((sL (sL ((spl1 S room (sumW S 6) i).1) 50 i ((room * (((spl1 S room (sumW S 6) i).1).2 49 i)) / (sumW S 6))) 51 i ((room * (((spl1 S room (sumW S 6) i).1).2 49 i)) - (room * (((spl1 S room (sumW S 6) i).1).2 49 i)) / (sumW S 6) * (sumW S 6))).2 50 i))), (8, .long (room * (((spl1 S room (sumW S 6) i).1).2 49 i))), (0, .ref (ad 5)), (1, .long room), (3, .long (sumW S 6))]) hx hb dX4_split_78 hl (k := 5) rfl (nI_inc _) (by decide) rfl (fun ls hl => ?_)
          refine lv_goto (tgt := 26) hx hb dX4_split_81 (by decide) ?_
          have e9 : ((spl1 S room (sumW S 6) i).2) - ((sL (sL ((spl1 S room (sumW S 6) i).1) 50 i ((room * (((spl1 S room (sumW S 6) i).1).2 49 i)) / (sumW S 6))) 51 i ((room * (((spl1 S room (sumW S 6) i).1).2 49 i)) - (room * (((spl1 S room (sumW S 6) i).1).2 49 i)) / (sumW S 6) * (sumW S 6))).2 50 i) = (spl1 S room (sumW S 6) (i + 1)).2 := rfl
          rw [e9] at hl
          have e9 : sL (sL ((spl1 S room (sumW S 6) i).1) 50 i ((room * (((spl1 S room (sumW S 6) i).1).2 49 i)) / (sumW S 6))) 51 i ((room * (((spl1 S room (sumW S 6) i).1).2 49 i)) - (room * (((spl1 S room (sumW S 6) i).1).2 49 i)) / (sumW S 6) * (sumW S 6)) = (spl1 S room (sumW S 6) (i + 1)).1 := rfl
          rw [e9] at hw
          exact ih_26 (i + 1) (by omega) (by omega) _ _ _ hw (lv_sub hl [3, 4, 5, 1, 0] rfl)
    have e9 : room = (spl1 S room (sumW S 6) 0).2 := rfl
    rw [e9] at hl
    have e9 : S = (spl1 S room (sumW S 6) 0).1 := rfl
    rw [e9] at hw
    exact lp_26 7 0 (by omega) (by omega) _ _ _ hw (lv_sub hl [3, 4, 2, 1, 0] rfl)
  · skip
    refine lv_aload_n hx hb dX4_split_11 rfl (lv_at hl 1 rfl) ?_
    refine wo_get hx hb hts inX4 hown hK hw 5 rfl rfl 1 (by decide) (hts _ wd_156) (fun _ h9 => h9) rfl dX4_split_12 ?_
    refine lv_lconst (v := 0) hx hb dX4_split_15 (by decide) ?_
    refine wo_sV (As := [.ref (ad 50), .long 0]) (rest := []) (kJ7_fill l dC dI ca ad S 0) ⟨hx, hb, hml, hown, hts⟩ (va_cwS 2 hts (wa_gS wd_334 wd_33 wd_3 wd_34) rfl rfl rfl (by decide +kernel) ⟨Nat.le_of_ble_eq_true rfl, Nat.le_of_ble_eq_true rfl⟩) hK hw hA rfl hl.1 rfl (Nat.le_of_ble_eq_true rfl) dX4_split_16 ⟨Nat.zero_le _, Nat.zero_le _⟩ (fun S_7 H locs hp_7 hw => ?_)
    have e9 := hp_7.symm
    subst e9
    exact ct_vret (S := flL S 0 6) hx hb hr hlocks hK hw (by rw [splF, if_neg c_2]) dX4_split_19
