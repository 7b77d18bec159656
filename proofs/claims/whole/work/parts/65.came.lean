theorem dX6_came_0 : decode cX6_came 0 = .ok (.aload_n 0, 1) := by decide +kernel
theorem dX6_came_1 : decode cX6_came 1 = .ok (.iload_n 1, 1) := by decide +kernel
theorem dX6_came_2 : decode cX6_came 2 = .ok (.invokevirtual 91, 3) := by decide +kernel
theorem dX6_came_5 : decode cX6_came 5 = .ok (.ifCond .eq 105, 3) := by decide +kernel
theorem dX6_came_8 : decode cX6_came 8 = .ok (.aload_n 0, 1) := by decide +kernel
theorem dX6_came_9 : decode cX6_came 9 = .ok (.getfield 36, 3) := by decide +kernel
theorem dX6_came_12 : decode cX6_came 12 = .ok (.iload_n 1, 1) := by decide +kernel
theorem dX6_came_13 : decode cX6_came 13 = .ok (.iaload, 1) := by decide +kernel
theorem dX6_came_14 : decode cX6_came 14 = .ok (.ifCond .le 96, 3) := by decide +kernel
theorem dX6_came_17 : decode cX6_came 17 = .ok (.aload_n 0, 1) := by decide +kernel
theorem dX6_came_18 : decode cX6_came 18 = .ok (.aload_n 0, 1) := by decide +kernel
theorem dX6_came_19 : decode cX6_came 19 = .ok (.getfield 39, 3) := by decide +kernel
theorem dX6_came_22 : decode cX6_came 22 = .ok (.bipush 8, 2) := by decide +kernel
theorem dX6_came_24 : decode cX6_came 24 = .ok (.iload_n 1, 1) := by decide +kernel
theorem dX6_came_25 : decode cX6_came 25 = .ok (.imul, 1) := by decide +kernel
theorem dX6_came_26 : decode cX6_came 26 = .ok (.iaload, 1) := by decide +kernel
theorem dX6_came_27 : decode cX6_came 27 = .ok (.iload_n 1, 1) := by decide +kernel
theorem dX6_came_28 : decode cX6_came 28 = .ok (.aload_n 0, 1) := by decide +kernel
theorem dX6_came_29 : decode cX6_came 29 = .ok (.getfield 42, 3) := by decide +kernel
theorem dX6_came_32 : decode cX6_came 32 = .ok (.bipush 8, 2) := by decide +kernel
theorem dX6_came_34 : decode cX6_came 34 = .ok (.iload_n 1, 1) := by decide +kernel
theorem dX6_came_35 : decode cX6_came 35 = .ok (.imul, 1) := by decide +kernel
theorem dX6_came_36 : decode cX6_came 36 = .ok (.laload, 1) := by decide +kernel
theorem dX6_came_37 : decode cX6_came 37 = .ok (.invokevirtual 123, 3) := by decide +kernel
theorem dX6_came_40 : decode cX6_came 40 = .ok (.ifCond .eq 70, 3) := by decide +kernel
theorem dX6_came_43 : decode cX6_came 43 = .ok (.aload_n 0, 1) := by decide +kernel
theorem dX6_came_44 : decode cX6_came 44 = .ok (.getfield 36, 3) := by decide +kernel
theorem dX6_came_47 : decode cX6_came 47 = .ok (.iload_n 1, 1) := by decide +kernel
theorem dX6_came_48 : decode cX6_came 48 = .ok (.dup2, 1) := by decide +kernel
theorem dX6_came_49 : decode cX6_came 49 = .ok (.iaload, 1) := by decide +kernel
theorem dX6_came_50 : decode cX6_came 50 = .ok (.iconst 1, 1) := by decide +kernel
theorem dX6_came_51 : decode cX6_came 51 = .ok (.isub, 1) := by decide +kernel
theorem dX6_came_52 : decode cX6_came 52 = .ok (.iastore, 1) := by decide +kernel
theorem dX6_came_53 : decode cX6_came 53 = .ok (.bipush 8, 2) := by decide +kernel
theorem dX6_came_55 : decode cX6_came 55 = .ok (.iload_n 1, 1) := by decide +kernel
theorem dX6_came_56 : decode cX6_came 56 = .ok (.imul, 1) := by decide +kernel
theorem dX6_came_57 : decode cX6_came 57 = .ok (.istore_n 2, 1) := by decide +kernel
theorem dX6_came_58 : decode cX6_came 58 = .ok (.iload_n 2, 1) := by decide +kernel
theorem dX6_came_59 : decode cX6_came 59 = .ok (.bipush 8, 2) := by decide +kernel
theorem dX6_came_61 : decode cX6_came 61 = .ok (.iload_n 1, 1) := by decide +kernel
theorem dX6_came_62 : decode cX6_came 62 = .ok (.imul, 1) := by decide +kernel
theorem dX6_came_63 : decode cX6_came 63 = .ok (.aload_n 0, 1) := by decide +kernel
theorem dX6_came_64 : decode cX6_came 64 = .ok (.getfield 36, 3) := by decide +kernel
theorem dX6_came_67 : decode cX6_came 67 = .ok (.iload_n 1, 1) := by decide +kernel
theorem dX6_came_68 : decode cX6_came 68 = .ok (.iaload, 1) := by decide +kernel
theorem dX6_came_69 : decode cX6_came 69 = .ok (.iadd, 1) := by decide +kernel
theorem dX6_came_70 : decode cX6_came 70 = .ok (.if_icmp .ge 37, 3) := by decide +kernel
theorem dX6_came_73 : decode cX6_came 73 = .ok (.aload_n 0, 1) := by decide +kernel
theorem dX6_came_74 : decode cX6_came 74 = .ok (.getfield 39, 3) := by decide +kernel
theorem dX6_came_77 : decode cX6_came 77 = .ok (.iload_n 2, 1) := by decide +kernel
theorem dX6_came_78 : decode cX6_came 78 = .ok (.aload_n 0, 1) := by decide +kernel
theorem dX6_came_79 : decode cX6_came 79 = .ok (.getfield 39, 3) := by decide +kernel
theorem dX6_came_82 : decode cX6_came 82 = .ok (.iload_n 2, 1) := by decide +kernel
theorem dX6_came_83 : decode cX6_came 83 = .ok (.iconst 1, 1) := by decide +kernel
theorem dX6_came_84 : decode cX6_came 84 = .ok (.iadd, 1) := by decide +kernel
theorem dX6_came_85 : decode cX6_came 85 = .ok (.iaload, 1) := by decide +kernel
theorem dX6_came_86 : decode cX6_came 86 = .ok (.iastore, 1) := by decide +kernel
theorem dX6_came_87 : decode cX6_came 87 = .ok (.aload_n 0, 1) := by decide +kernel
theorem dX6_came_88 : decode cX6_came 88 = .ok (.getfield 42, 3) := by decide +kernel
theorem dX6_came_91 : decode cX6_came 91 = .ok (.iload_n 2, 1) := by decide +kernel
theorem dX6_came_92 : decode cX6_came 92 = .ok (.aload_n 0, 1) := by decide +kernel
theorem dX6_came_93 : decode cX6_came 93 = .ok (.getfield 42, 3) := by decide +kernel
theorem dX6_came_96 : decode cX6_came 96 = .ok (.iload_n 2, 1) := by decide +kernel
theorem dX6_came_97 : decode cX6_came 97 = .ok (.iconst 1, 1) := by decide +kernel
theorem dX6_came_98 : decode cX6_came 98 = .ok (.iadd, 1) := by decide +kernel
theorem dX6_came_99 : decode cX6_came 99 = .ok (.laload, 1) := by decide +kernel
theorem dX6_came_100 : decode cX6_came 100 = .ok (.lastore, 1) := by decide +kernel
theorem dX6_came_101 : decode cX6_came 101 = .ok (.iinc 2 1, 3) := by decide +kernel
theorem dX6_came_104 : decode cX6_came 104 = .ok (.goto (-46), 3) := by decide +kernel
theorem dX6_came_107 : decode cX6_came 107 = .ok (.goto (-107), 3) := by decide +kernel
theorem dX6_came_110 : decode cX6_came 110 = .ok (.return_, 1) := by decide +kernel

set_option maxHeartbeats 4000000 in
set_option maxRecDepth 100000 in
theorem kX6_came (l : Launch) (dC : Nat → ClassId) (dI : Nat → Nat → Nat) (ca : Nat → ClassId) (ad : Nat → Nat) (S : sSt) (pp : Nat) (nb : Nat) (nr : Nat) (hp6 : pp < 6) (hmi : MI nb nr S) : ct_V l yX6_came (Cond.code yX6_came cX6_came 3 none :: wa_T) ({ frames := 2, cells := 0, slots := 0, locals := 49 } : Room) (dC, dI) vwCl (tyl ca) (wq ca ad) S [.ref (ad 0), .int (nI pp)] (fun S2 => S2 = cmL pp 9 S) := by
  refine ct_ofV (by decide) (Nat.le_of_ble_eq_true rfl) ?_
  intro p e s m below meth c A ls hx hb hr hml hts hown hlocks hK hA hw hl
  have hl : lv_has ls 3 [(0, .ref (ad 0)), (1, .int (nI pp))] := hl
  obtain ⟨k0, hk08, hk0, hq0⟩ := hmi.1 pp hp6
  have lp_0 : ∀ (n : Nat) (i : Nat) (k : Nat) (X : sSt), k + i ≤ 8 → 10 ≤ i + n → MI nb nr X → X.1 9 pp = nI k → (∀ j, j < k → ∃ b, b < 6 ∧ X.1 10 (8 * pp + j) = nI b) → cmL pp (9 - i) X = cmL pp 9 S → ∀ (H : Heap) (locs : List Loc) (ls : Array Slot), wo_w (dC, dI) vwCl A s.heap (wq ca ad X) H locs → lv_has ls 3 [(0, .ref (ad 0)), (1, .int (nI pp))] → W p l e ({ frames := 2, cells := 0, slots := 0, locals := 49 } : Room) s m ([.ref (ad 0), .int (nI pp)] : List Value).toArray below meth c H locs 0 0 (MQ below (va_Qv (fun S2 => S2 = cmL pp 9 S) (ct_B (dC, dI) vwCl (tyl ca) (wq ca ad) A) A) ([.ref (ad 0), .int (nI pp)] : List Value).toArray s 0 0 A) (F0 m 0 ls []) := by
    intro n
    induction n with
    | zero =>
      intro i k X hik hn hmx hk9 hq9 hrem
      exfalso
      omega
    | succ n ih_0 =>
      intro i k X hik hn hmx hk9 hq9 hrem H locs ls hw hl
      refine lv_aload_n hx hb dX6_came_0 rfl (lv_at hl 0 rfl) ?_
      refine lv_iload_n hx hb dX6_came_1 rfl (lv_at hl 1 rfl) ?_
      refine wo_vI (As := [.int (nI pp)]) (rest := []) (kX6_isWell l dC dI ca ad X (nI pp)) ⟨hx, hb, hml, hown, hts⟩ (cwV 1 hts (wa_gV wd_655 wd_657 ws_13 wd_8 wd_658) rfl rfl rfl (by decide +kernel) ⟨Nat.le_of_ble_eq_true rfl, Nat.le_of_ble_eq_true rfl⟩) hK hw hA 0 rfl rfl rfl rfl hl.1 rfl (Nat.le_of_ble_eq_true rfl) dX6_came_2 ⟨Nat.zero_le _, Nat.zero_le _⟩ (fun r_1 S_1 H locs hp_1 hw => ?_)
      have e9 := hp_1.1.symm
      subst e9
      have e9 := hp_1.2.symm
      subst e9
      refine lv_if_eq (tgt := 110) hx hb dX6_came_5 (by decide) (fun c_2 => ?_) (fun c_2 => ?_)
      · skip
        have c_2 : mwl X (nI pp) = false := nb_0 c_2
        have hX := cmL_stop hrem (by simp only [mgOk, c_2, decide_true, decide_false, Bool.not_true, Bool.not_false, Bool.true_and, Bool.and_true, Bool.false_and, Bool.and_false, Bool.or_true, Bool.true_or, Bool.or_false, Bool.false_or, Bool.false_eq_true, Bool.true_eq_false, if_true, if_false, ↓reduceIte])
        exact ct_vret (S := X) hx hb hr hlocks hK hw (hX) dX6_came_110
      · skip
        have c_2 : mwl X (nI pp) = true := nb_1 c_2
        refine lv_aload_n hx hb dX6_came_8 rfl (lv_at hl 0 rfl) ?_
        refine wo_get hx hb hts inX6 hown hK hw 0 rfl rfl 10 (by decide) (hts _ wd_575) (fun _ h9 => h9) rfl dX6_came_9 ?_
        refine lv_iload_n hx hb dX6_came_12 rfl (lv_at hl 1 rfl) ?_
        refine wo_iald hx hb hK hw 9 0 rfl rfl pp rfl (by first | assumption | omega) (by decide) dX6_came_13 ?_
        refine tp_i (y := nI k) (hk9) ?_
        refine lv_if_le (tgt := 110) hx hb dX6_came_14 (by decide) (fun c_3 => ?_) (fun c_3 => ?_)
        · skip
          have c_3 : k ≤ 0 := (nI_leI (a := k) (b := 0) (by omega) (by omega)).mp c_3
          have hX := cmL_stop hrem (mgOk_0 hk9 (by omega))
          exact ct_vret (S := X) hx hb hr hlocks hK hw (hX) dX6_came_110
        · skip
          have c_3 : ¬ (k ≤ 0) := fun h9 => c_3 ((nI_leI (a := k) (b := 0) (by omega) (by omega)).mpr h9)
          obtain ⟨m9, b9, hm9, hb9, ekm, e10⟩ := MQW_first hk9 (by omega) hq9 c_3
          subst ekm
          have hge := mgS_eq hk9 hm9 e10 hb9
          have nl9 : ¬ nI (m9 + 1) ≤ 0 := nI_nle (by omega) (by omega)
          refine lv_aload_n hx hb dX6_came_17 rfl (lv_at hl 0 rfl) ?_
          refine lv_aload_n hx hb dX6_came_18 rfl (lv_at hl 0 rfl) ?_
          refine wo_get hx hb hts inX6 hown hK hw 0 rfl rfl 11 (by decide) (hts _ wd_576) (fun _ h9 => h9) rfl dX6_came_19 ?_
          refine lv_bipush (v := nI 8) hx hb dX6_came_22 (by decide) ?_
          refine lv_iload_n hx hb dX6_came_24 rfl (lv_at hl 1 rfl) ?_
          refine lv_imul hx hb dX6_came_25 ?_
          refine tp_i (pk_mul 8 pp) ?_
          refine wo_iald hx hb hK hw 10 0 rfl rfl (8 * pp) rfl (by first | assumption | omega) (by decide) dX6_came_26 ?_
          refine tp_i (y := nI b9) (e10) ?_
          refine lv_iload_n hx hb dX6_came_27 rfl (lv_at hl 1 rfl) ?_
          refine lv_aload_n hx hb dX6_came_28 rfl (lv_at hl 0 rfl) ?_
          refine wo_get hx hb hts inX6 hown hK hw 0 rfl rfl 12 (by decide) (hts _ wd_577) (fun _ h9 => h9) rfl dX6_came_29 ?_
          refine lv_bipush (v := nI 8) hx hb dX6_came_32 (by decide) ?_
          refine lv_iload_n hx hb dX6_came_34 rfl (lv_at hl 1 rfl) ?_
          refine lv_imul hx hb dX6_came_35 ?_
          refine tp_i (pk_mul 8 pp) ?_
          refine wo_lald hx hb hK hw 11 1 rfl rfl (8 * pp) rfl (by first | assumption | omega) (by decide) dX6_came_36 ?_
          refine wo_vI (As := [.int (nI b9), .int (nI pp), .long (X.2 11 (8 * pp))]) (rest := []) (kX6_move l dC dI ca ad X b9 pp (X.2 11 (8 * pp)) (by first | assumption | omega) (by first | assumption | omega)) ⟨hx, hb, hml, hown, hts⟩ (cwV 3 hts (wa_gV wd_696 wd_698 ws_17 wd_8 wd_699) rfl rfl rfl (by decide +kernel) ⟨Nat.le_of_ble_eq_true rfl, Nat.le_of_ble_eq_true rfl⟩) hK hw hA 0 rfl rfl rfl rfl hl.1 rfl (Nat.le_of_ble_eq_true rfl) dX6_came_37 ⟨Nat.zero_le _, Nat.zero_le _⟩ (fun r_4 S_4 H locs hp_4 hw => ?_)
          have e9 := hp_4.1.symm
          subst e9
          have e9 := hp_4.2.symm
          subst e9
          refine lv_if_eq (tgt := 110) hx hb dX6_came_40 (by decide) (fun c_5 => ?_) (fun c_5 => ?_)
          · skip
            have c_5 : mmvOk X b9 pp (X.2 11 (8 * pp)) = false := nb_0 c_5
            rw [if_neg (by rw [c_5]; decide)] at hw
            have hX := cmL_stop hrem (by simp only [mgOk, hge.2, c_2, c_5, decide_true, decide_false, Bool.not_true, Bool.not_false, Bool.true_and, Bool.and_true, Bool.false_and, Bool.and_false, Bool.or_true, Bool.true_or, Bool.or_false, Bool.false_or, Bool.false_eq_true, Bool.true_eq_false, if_true, if_false, ↓reduceIte])
            exact ct_vret (S := X) hx hb hr hlocks hK hw (hX) dX6_came_110
          · skip
            have c_5 : mmvOk X b9 pp (X.2 11 (8 * pp)) = true := nb_1 c_5
            rw [if_pos c_5] at hw
            have hgo : mgOk X pp = true := by simp only [mgOk, hge.2, c_2, hk9, c_5, nl9, decide_true, decide_false, Bool.not_true, Bool.not_false, Bool.true_and, Bool.and_true, Bool.false_and, Bool.and_false, Bool.or_true, Bool.true_or, Bool.or_false, Bool.false_or, Bool.false_eq_true, Bool.true_eq_false, if_true, if_false, ↓reduceIte]
            refine lv_aload_n hx hb dX6_came_43 rfl (lv_at hl 0 rfl) ?_
            refine wo_get hx hb hts inX6 hown hK hw 0 rfl rfl 10 (by decide) (hts _ wd_575) (fun _ h9 => h9) rfl dX6_came_44 ?_
            refine lv_iload_n hx hb dX6_came_47 rfl (lv_at hl 1 rfl) ?_
            refine lv_dup2_11 hx hb dX6_came_48 rfl rfl ?_
            refine wo_iald hx hb hK hw 9 0 rfl rfl pp rfl (by first | assumption | omega) (by decide) dX6_came_49 ?_
            refine tp_i (y := nI (m9 + 1)) (by rw [mmvS_1 _ _ _ _ 9 (by omega)]; exact hk9) ?_
            refine lv_iconst (v := nI 1) hx hb dX6_came_50 (by decide) ?_
            refine lv_isub hx hb dX6_came_51 ?_
            refine tp_i (pk_sub (a := m9 + 1) (b := 1) (by omega)) ?_
            refine wo_iast hx hb hK hw 9 0 rfl rfl pp rfl (by first | assumption | omega) (by decide) (sm_9 ca ad (mmvS X b9 pp (X.2 11 (8 * pp))) pp (nI ((m9 + 1) - 1))) dX6_came_52 (fun H locs hw => ?_)
            refine lv_bipush (v := nI 8) hx hb dX6_came_53 (by decide) ?_
            refine lv_iload_n hx hb dX6_came_55 rfl (lv_at hl 1 rfl) ?_
            refine lv_imul hx hb dX6_came_56 ?_
            refine tp_i (pk_mul 8 pp) ?_
            refine lv_istore_n (lv' := [(2, .int (nI (8 * pp))), (0, .ref (ad 0)), (1, .int (nI pp))]) hx hb dX6_came_57 rfl hl (by decide) rfl (fun ls hl => ?_)
            have lp_58 : ∀ (n : Nat) (j : Nat), j ≤ m9 → m9 + 1 ≤ j + n → ∀ (H : Heap) (locs : List Loc) (ls : Array Slot), wo_w (dC, dI) vwCl A s.heap (wq ca ad (msh (mgY X pp m9 b9) pp j)) H locs → lv_has ls 3 [(0, .ref (ad 0)), (1, .int (nI pp)), (2, .int (nI (8 * pp + j)))] → W p l e ({ frames := 2, cells := 0, slots := 0, locals := 49 } : Room) s m ([.ref (ad 0), .int (nI pp)] : List Value).toArray below meth c H locs 0 0 (MQ below (va_Qv (fun S2 => S2 = cmL pp 9 S) (ct_B (dC, dI) vwCl (tyl ca) (wq ca ad) A) A) ([.ref (ad 0), .int (nI pp)] : List Value).toArray s 0 0 A) (F0 m 58 ls []) := by
              intro n
              induction n with
              | zero =>
                intro j hj hn
                exfalso
                omega
              | succ n ih_58 =>
                intro j hj hn H locs ls hw hl
                refine lv_iload_n hx hb dX6_came_58 rfl (lv_at hl 2 rfl) ?_
                refine lv_bipush (v := nI 8) hx hb dX6_came_59 (by decide) ?_
                refine lv_iload_n hx hb dX6_came_61 rfl (lv_at hl 1 rfl) ?_
                refine lv_imul hx hb dX6_came_62 ?_
                refine tp_i (pk_mul 8 pp) ?_
                refine lv_aload_n hx hb dX6_came_63 rfl (lv_at hl 0 rfl) ?_
                refine wo_get hx hb hts inX6 hown hK hw 0 rfl rfl 10 (by decide) (hts _ wd_575) (fun _ h9 => h9) rfl dX6_came_64 ?_
                refine lv_iload_n hx hb dX6_came_67 rfl (lv_at hl 1 rfl) ?_
                refine wo_iald hx hb hK hw 9 0 rfl rfl pp rfl (by first | assumption | omega) (by decide) dX6_came_68 ?_
                refine tp_i (y := nI m9) (by rw [msh_q _ pp j 9 (by omega), mgY, sI_1, if_pos ⟨rfl, rfl⟩]) ?_
                refine lv_iadd hx hb dX6_came_69 ?_
                refine tp_i (nI_add (8 * pp) m9) ?_
                refine lv_icmp_ge (tgt := 107) hx hb dX6_came_70 (by decide) (fun c_6 => ?_) (fun c_6 => ?_)
                · skip
                  have c_6 : ((8 * pp) + m9) ≤ (8 * pp + j) := (nI_leI (a := (8 * pp) + m9) (b := 8 * pp + j) (by omega) (by omega)).mp c_6
                  obtain rfl : m9 = j := by omega
                  refine lv_goto (tgt := 0) hx hb dX6_came_107 (by decide) ?_
                  have e9 : msh (mgY X pp m9 b9) pp m9 = (mgS X pp) := hge.1.symm
                  try rw [e9] at hw
                  exact ih_0 (i + 1) m9 (mgS X pp) (by omega) (by omega) (by rw [hge.1]; exact msh_MI hp6 hmx hk9 hm9) (by rw [hge.1, msh_q _ pp m9 9 (by omega), mgY, sI_1, if_pos ⟨rfl, rfl⟩]) (fun j hj => by rw [hge.1, msh_10, if_pos (by omega), mgY, sI_1, if_neg (by omega), mmvS_1 _ _ _ _ 10 (by omega)]; exact hq9 (j + 1) (by omega)) (cmL_step hrem (by omega) hgo) _ _ _ hw (lv_sub hl [0, 1] rfl)
                · skip
                  have c_6 : ¬ (((8 * pp) + m9) ≤ (8 * pp + j)) := fun h9 => c_6 ((nI_leI (a := (8 * pp) + m9) (b := 8 * pp + j) (by omega) (by omega)).mpr h9)
                  refine lv_aload_n hx hb dX6_came_73 rfl (lv_at hl 0 rfl) ?_
                  refine wo_get hx hb hts inX6 hown hK hw 0 rfl rfl 11 (by decide) (hts _ wd_576) (fun _ h9 => h9) rfl dX6_came_74 ?_
                  refine lv_iload_n hx hb dX6_came_77 rfl (lv_at hl 2 rfl) ?_
                  refine lv_aload_n hx hb dX6_came_78 rfl (lv_at hl 0 rfl) ?_
                  refine wo_get hx hb hts inX6 hown hK hw 0 rfl rfl 11 (by decide) (hts _ wd_576) (fun _ h9 => h9) rfl dX6_came_79 ?_
                  refine lv_iload_n hx hb dX6_came_82 rfl (lv_at hl 2 rfl) ?_
                  refine lv_iconst (v := nI 1) hx hb dX6_came_83 (by decide) ?_
                  refine lv_iadd hx hb dX6_came_84 ?_
                  refine tp_i (nI_add (8 * pp + j) 1) ?_
                  refine wo_iald hx hb hK hw 10 0 rfl rfl ((8 * pp + j) + 1) rfl (by first | assumption | omega) (by decide) dX6_came_85 ?_
                  refine wo_iast hx hb hK hw 10 0 rfl rfl (8 * pp + j) rfl (by first | assumption | omega) (by decide) (sm_10 ca ad (msh (mgY X pp m9 b9) pp j) (8 * pp + j) ((msh (mgY X pp m9 b9) pp j).1 10 ((8 * pp + j) + 1))) dX6_came_86 (fun H locs hw => ?_)
                  refine lv_aload_n hx hb dX6_came_87 rfl (lv_at hl 0 rfl) ?_
                  refine wo_get hx hb hts inX6 hown hK hw 0 rfl rfl 12 (by decide) (hts _ wd_577) (fun _ h9 => h9) rfl dX6_came_88 ?_
                  refine lv_iload_n hx hb dX6_came_91 rfl (lv_at hl 2 rfl) ?_
                  refine lv_aload_n hx hb dX6_came_92 rfl (lv_at hl 0 rfl) ?_
                  refine wo_get hx hb hts inX6 hown hK hw 0 rfl rfl 12 (by decide) (hts _ wd_577) (fun _ h9 => h9) rfl dX6_came_93 ?_
                  refine lv_iload_n hx hb dX6_came_96 rfl (lv_at hl 2 rfl) ?_
                  refine lv_iconst (v := nI 1) hx hb dX6_came_97 (by decide) ?_
                  refine lv_iadd hx hb dX6_came_98 ?_
                  refine tp_i (nI_add (8 * pp + j) 1) ?_
                  refine wo_lald hx hb hK hw 11 1 rfl rfl ((8 * pp + j) + 1) rfl (by first | assumption | omega) (by decide) dX6_came_99 ?_
                  refine wo_last hx hb hK hw 11 1 rfl rfl (8 * pp + j) rfl (by first | assumption | omega) (by decide) (sm_11 ca ad (sI (msh (mgY X pp m9 b9) pp j) 10 (8 * pp + j) ((msh (mgY X pp m9 b9) pp j).1 10 ((8 * pp + j) + 1))) (8 * pp + j) ((sI (msh (mgY X pp m9 b9) pp j) 10 (8 * pp + j) ((msh (mgY X pp m9 b9) pp j).1 10 ((8 * pp + j) + 1))).2 11 ((8 * pp + j) + 1))) dX6_came_100 (fun H locs hw => ?_)
                  refine lv_iinc (v := nI ((8 * pp + j) + 1)) (lv' := [(2, .int (nI ((8 * pp + j) + 1))), (0, .ref (ad 0)), (1, .int (nI pp))]) hx hb dX6_came_101 hl (k := 2) rfl (nI_inc _) (by decide) rfl (fun ls hl => ?_)
                  refine lv_goto (tgt := 58) hx hb dX6_came_104 (by decide) ?_
                  have e9 : nI ((8 * pp + j) + 1) = nI (8 * pp + (j + 1)) := rfl
                  try rw [e9] at hl
                  have e9 : sL (sI (msh (mgY X pp m9 b9) pp j) 10 (8 * pp + j) ((msh (mgY X pp m9 b9) pp j).1 10 ((8 * pp + j) + 1))) 11 (8 * pp + j) ((sI (msh (mgY X pp m9 b9) pp j) 10 (8 * pp + j) ((msh (mgY X pp m9 b9) pp j).1 10 ((8 * pp + j) + 1))).2 11 ((8 * pp + j) + 1)) = msh (mgY X pp m9 b9) pp (j + 1) := rfl
                  try rw [e9] at hw
                  exact ih_58 (j + 1) (by omega) (by omega) _ _ _ hw (lv_sub hl [1, 2, 0] rfl)
            have e9 : nI (8 * pp) = nI (8 * pp + 0) := rfl
            try rw [e9] at hl
            have e9 : sI (mmvS X b9 pp (X.2 11 (8 * pp))) 9 pp (nI ((m9 + 1) - 1)) = msh (mgY X pp m9 b9) pp 0 := rfl
            try rw [e9] at hw
            exact lp_58 (m9 + 1) 0 (by omega) (by omega) _ _ _ hw (lv_sub hl [1, 2, 0] rfl)
  exact lp_0 10 0 k0 S (by omega) (by omega) hmi hk0 hq0 rfl _ _ _ hw (lv_sub hl [0, 1] rfl)
