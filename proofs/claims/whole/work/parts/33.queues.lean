theorem dX2_append_0 : decode cX2_append 0 = .ok (.aload_n 0, 1) := by decide +kernel
theorem dX2_append_1 : decode cX2_append 1 = .ok (.getfield 9, 3) := by decide +kernel
theorem dX2_append_4 : decode cX2_append 4 = .ok (.iload_n 1, 1) := by decide +kernel
theorem dX2_append_5 : decode cX2_append 5 = .ok (.iaload, 1) := by decide +kernel
theorem dX2_append_6 : decode cX2_append 6 = .ok (.istore 5, 2) := by decide +kernel
theorem dX2_append_8 : decode cX2_append 8 = .ok (.iload 5, 2) := by decide +kernel
theorem dX2_append_10 : decode cX2_append 10 = .ok (.bipush 8, 2) := by decide +kernel
theorem dX2_append_12 : decode cX2_append 12 = .ok (.if_icmp .lt 5, 3) := by decide +kernel
theorem dX2_append_15 : decode cX2_append 15 = .ok (.iconst 0, 1) := by decide +kernel
theorem dX2_append_16 : decode cX2_append 16 = .ok (.ireturn, 1) := by decide +kernel
theorem dX2_append_17 : decode cX2_append 17 = .ok (.aload_n 0, 1) := by decide +kernel
theorem dX2_append_18 : decode cX2_append 18 = .ok (.getfield 17, 3) := by decide +kernel
theorem dX2_append_21 : decode cX2_append 21 = .ok (.iload_n 1, 1) := by decide +kernel
theorem dX2_append_22 : decode cX2_append 22 = .ok (.aaload, 1) := by decide +kernel
theorem dX2_append_23 : decode cX2_append 23 = .ok (.iload 5, 2) := by decide +kernel
theorem dX2_append_25 : decode cX2_append 25 = .ok (.iload_n 2, 1) := by decide +kernel
theorem dX2_append_26 : decode cX2_append 26 = .ok (.iastore, 1) := by decide +kernel
theorem dX2_append_27 : decode cX2_append 27 = .ok (.aload_n 0, 1) := by decide +kernel
theorem dX2_append_28 : decode cX2_append 28 = .ok (.getfield 22, 3) := by decide +kernel
theorem dX2_append_31 : decode cX2_append 31 = .ok (.iload_n 1, 1) := by decide +kernel
theorem dX2_append_32 : decode cX2_append 32 = .ok (.aaload, 1) := by decide +kernel
theorem dX2_append_33 : decode cX2_append 33 = .ok (.iload 5, 2) := by decide +kernel
theorem dX2_append_35 : decode cX2_append 35 = .ok (.lload_n 3, 1) := by decide +kernel
theorem dX2_append_36 : decode cX2_append 36 = .ok (.lastore, 1) := by decide +kernel
theorem dX2_append_37 : decode cX2_append 37 = .ok (.aload_n 0, 1) := by decide +kernel
theorem dX2_append_38 : decode cX2_append 38 = .ok (.getfield 9, 3) := by decide +kernel
theorem dX2_append_41 : decode cX2_append 41 = .ok (.iload_n 1, 1) := by decide +kernel
theorem dX2_append_42 : decode cX2_append 42 = .ok (.dup2, 1) := by decide +kernel
theorem dX2_append_43 : decode cX2_append 43 = .ok (.iaload, 1) := by decide +kernel
theorem dX2_append_44 : decode cX2_append 44 = .ok (.iconst 1, 1) := by decide +kernel
theorem dX2_append_45 : decode cX2_append 45 = .ok (.iadd, 1) := by decide +kernel
theorem dX2_append_46 : decode cX2_append 46 = .ok (.iastore, 1) := by decide +kernel
theorem dX2_append_47 : decode cX2_append 47 = .ok (.iconst 1, 1) := by decide +kernel
theorem dX2_append_48 : decode cX2_append 48 = .ok (.ireturn, 1) := by decide +kernel

theorem dX2_removeFirst_0 : decode cX2_removeFirst 0 = .ok (.iconst 1, 1) := by decide +kernel
theorem dX2_removeFirst_1 : decode cX2_removeFirst 1 = .ok (.istore_n 2, 1) := by decide +kernel
theorem dX2_removeFirst_2 : decode cX2_removeFirst 2 = .ok (.iload_n 2, 1) := by decide +kernel
theorem dX2_removeFirst_3 : decode cX2_removeFirst 3 = .ok (.aload_n 0, 1) := by decide +kernel
theorem dX2_removeFirst_4 : decode cX2_removeFirst 4 = .ok (.getfield 9, 3) := by decide +kernel
theorem dX2_removeFirst_7 : decode cX2_removeFirst 7 = .ok (.iload_n 1, 1) := by decide +kernel
theorem dX2_removeFirst_8 : decode cX2_removeFirst 8 = .ok (.iaload, 1) := by decide +kernel
theorem dX2_removeFirst_9 : decode cX2_removeFirst 9 = .ok (.if_icmp .ge 45, 3) := by decide +kernel
theorem dX2_removeFirst_12 : decode cX2_removeFirst 12 = .ok (.aload_n 0, 1) := by decide +kernel
theorem dX2_removeFirst_13 : decode cX2_removeFirst 13 = .ok (.getfield 17, 3) := by decide +kernel
theorem dX2_removeFirst_16 : decode cX2_removeFirst 16 = .ok (.iload_n 1, 1) := by decide +kernel
theorem dX2_removeFirst_17 : decode cX2_removeFirst 17 = .ok (.aaload, 1) := by decide +kernel
theorem dX2_removeFirst_18 : decode cX2_removeFirst 18 = .ok (.iload_n 2, 1) := by decide +kernel
theorem dX2_removeFirst_19 : decode cX2_removeFirst 19 = .ok (.iconst 1, 1) := by decide +kernel
theorem dX2_removeFirst_20 : decode cX2_removeFirst 20 = .ok (.isub, 1) := by decide +kernel
theorem dX2_removeFirst_21 : decode cX2_removeFirst 21 = .ok (.aload_n 0, 1) := by decide +kernel
theorem dX2_removeFirst_22 : decode cX2_removeFirst 22 = .ok (.getfield 17, 3) := by decide +kernel
theorem dX2_removeFirst_25 : decode cX2_removeFirst 25 = .ok (.iload_n 1, 1) := by decide +kernel
theorem dX2_removeFirst_26 : decode cX2_removeFirst 26 = .ok (.aaload, 1) := by decide +kernel
theorem dX2_removeFirst_27 : decode cX2_removeFirst 27 = .ok (.iload_n 2, 1) := by decide +kernel
theorem dX2_removeFirst_28 : decode cX2_removeFirst 28 = .ok (.iaload, 1) := by decide +kernel
theorem dX2_removeFirst_29 : decode cX2_removeFirst 29 = .ok (.iastore, 1) := by decide +kernel
theorem dX2_removeFirst_30 : decode cX2_removeFirst 30 = .ok (.aload_n 0, 1) := by decide +kernel
theorem dX2_removeFirst_31 : decode cX2_removeFirst 31 = .ok (.getfield 22, 3) := by decide +kernel
theorem dX2_removeFirst_34 : decode cX2_removeFirst 34 = .ok (.iload_n 1, 1) := by decide +kernel
theorem dX2_removeFirst_35 : decode cX2_removeFirst 35 = .ok (.aaload, 1) := by decide +kernel
theorem dX2_removeFirst_36 : decode cX2_removeFirst 36 = .ok (.iload_n 2, 1) := by decide +kernel
theorem dX2_removeFirst_37 : decode cX2_removeFirst 37 = .ok (.iconst 1, 1) := by decide +kernel
theorem dX2_removeFirst_38 : decode cX2_removeFirst 38 = .ok (.isub, 1) := by decide +kernel
theorem dX2_removeFirst_39 : decode cX2_removeFirst 39 = .ok (.aload_n 0, 1) := by decide +kernel
theorem dX2_removeFirst_40 : decode cX2_removeFirst 40 = .ok (.getfield 22, 3) := by decide +kernel
theorem dX2_removeFirst_43 : decode cX2_removeFirst 43 = .ok (.iload_n 1, 1) := by decide +kernel
theorem dX2_removeFirst_44 : decode cX2_removeFirst 44 = .ok (.aaload, 1) := by decide +kernel
theorem dX2_removeFirst_45 : decode cX2_removeFirst 45 = .ok (.iload_n 2, 1) := by decide +kernel
theorem dX2_removeFirst_46 : decode cX2_removeFirst 46 = .ok (.laload, 1) := by decide +kernel
theorem dX2_removeFirst_47 : decode cX2_removeFirst 47 = .ok (.lastore, 1) := by decide +kernel
theorem dX2_removeFirst_48 : decode cX2_removeFirst 48 = .ok (.iinc 2 1, 3) := by decide +kernel
theorem dX2_removeFirst_51 : decode cX2_removeFirst 51 = .ok (.goto (-49), 3) := by decide +kernel
theorem dX2_removeFirst_54 : decode cX2_removeFirst 54 = .ok (.aload_n 0, 1) := by decide +kernel
theorem dX2_removeFirst_55 : decode cX2_removeFirst 55 = .ok (.getfield 9, 3) := by decide +kernel
theorem dX2_removeFirst_58 : decode cX2_removeFirst 58 = .ok (.iload_n 1, 1) := by decide +kernel
theorem dX2_removeFirst_59 : decode cX2_removeFirst 59 = .ok (.dup2, 1) := by decide +kernel
theorem dX2_removeFirst_60 : decode cX2_removeFirst 60 = .ok (.iaload, 1) := by decide +kernel
theorem dX2_removeFirst_61 : decode cX2_removeFirst 61 = .ok (.iconst 1, 1) := by decide +kernel
theorem dX2_removeFirst_62 : decode cX2_removeFirst 62 = .ok (.isub, 1) := by decide +kernel
theorem dX2_removeFirst_63 : decode cX2_removeFirst 63 = .ok (.iastore, 1) := by decide +kernel
theorem dX2_removeFirst_64 : decode cX2_removeFirst 64 = .ok (.return_, 1) := by decide +kernel

theorem dX2_clear_0 : decode cX2_clear 0 = .ok (.aload_n 0, 1) := by decide +kernel
theorem dX2_clear_1 : decode cX2_clear 1 = .ok (.getfield 9, 3) := by decide +kernel
theorem dX2_clear_4 : decode cX2_clear 4 = .ok (.iload_n 1, 1) := by decide +kernel
theorem dX2_clear_5 : decode cX2_clear 5 = .ok (.iconst 0, 1) := by decide +kernel
theorem dX2_clear_6 : decode cX2_clear 6 = .ok (.iastore, 1) := by decide +kernel
theorem dX2_clear_7 : decode cX2_clear 7 = .ok (.return_, 1) := by decide +kernel

set_option maxHeartbeats 4000000 in
set_option maxRecDepth 100000 in
theorem kX2_append (l : Launch) (dC : Nat → ClassId) (dI : Nat → Nat → Nat) (ca : Nat → ClassId) (ad : Nat → Nat) (S : sSt) (pp : Nat) (bb : Nat) (vv : Int64) (kq : Nat) (hp6 : pp < 6) (hk8 : kq ≤ 8) (hq : S.1 34 pp = nI kq) : ct_I l yX2_append (Cond.code yX2_append cX2_append 6 (some .boolean) :: wa_T) ({ frames := 0, cells := 0, slots := 0, locals := 0 } : Room) (dC, dI) vwCl (tyl ca) (wc ca ad) S [.ref (ad 4), .int (nI pp), .int (nI bb), .long vv] (fun r S2 => r = bI (decide (kq < 8)) ∧ S2 = if kq < 8 then qapp S pp kq bb vv else S) := by
  refine ct_ofI (by decide) (Nat.le_of_ble_eq_true rfl) ?_
  intro p e s m below meth c A ls hx hb hr hml hts hown hlocks hK hA hw hl
  have hl : lv_has ls 6 [(0, .ref (ad 4)), (1, .int (nI pp)), (2, .int (nI bb)), (3, .long vv)] := hl
  refine lv_aload_n hx hb dX2_append_0 rfl (lv_at hl 0 rfl) ?_
  refine wo_get hx hb hts inX2 hown hK hw 4 rfl rfl 0 (by decide) (hts _ wd_135) (fun _ h9 => h9) rfl dX2_append_1 ?_
  refine lv_iload_n hx hb dX2_append_4 rfl (lv_at hl 1 rfl) ?_
  refine wo_iald hx hb hK hw 34 0 rfl rfl pp rfl (by first | assumption | omega) (by decide) dX2_append_5 ?_
  refine tp_i (y := nI kq) (hq) ?_
  refine lv_istore (lv' := [(5, .int (nI kq)), (0, .ref (ad 4)), (1, .int (nI pp)), (2, .int (nI bb)), (3, .long vv)]) hx hb dX2_append_6 hl (by decide) rfl (fun ls hl => ?_)
  refine lv_iload hx hb dX2_append_8 (lv_at hl 0 rfl) ?_
  refine lv_bipush (v := nI 8) hx hb dX2_append_10 (by decide) ?_
  refine lv_icmp_lt (tgt := 17) hx hb dX2_append_12 (by decide) (fun c_1 => ?_) (fun c_1 => ?_)
  · skip
    have c_1 : kq < 8 := (nI_ltI (a := kq) (b := 8) (by omega) (by omega)).mp c_1
    refine lv_aload_n hx hb dX2_append_17 rfl (lv_at hl 1 rfl) ?_
    refine wo_get hx hb hts inX2 hown hK hw 4 rfl rfl 1 (by decide) (hts _ wd_137) (fun _ h9 => h9) rfl dX2_append_18 ?_
    refine lv_iload_n hx hb dX2_append_21 rfl (lv_at hl 2 rfl) ?_
    refine wo_aald hx hb hK hw 35 4 rfl rfl pp rfl (by first | assumption | omega) (by decide) (if_pos (by first | assumption | omega)) dX2_append_22 ?_
    refine lv_iload hx hb dX2_append_23 (lv_at hl 0 rfl) ?_
    refine lv_iload_n hx hb dX2_append_25 rfl (lv_at hl 3 rfl) ?_
    refine wo_iast hx hb hK hw (36 + pp) 0 (rw_35 ca ad _ pp (by first | assumption | omega)) rfl kq rfl (by first | assumption | omega) (by decide) (se_35 ca ad S pp (by first | assumption | omega) kq (nI bb)) dX2_append_26 (fun H locs hw => ?_)
    refine lv_aload_n hx hb dX2_append_27 rfl (lv_at hl 1 rfl) ?_
    refine wo_get hx hb hts inX2 hown hK hw 4 rfl rfl 2 (by decide) (hts _ wd_139) (fun _ h9 => h9) rfl dX2_append_28 ?_
    refine lv_iload_n hx hb dX2_append_31 rfl (lv_at hl 2 rfl) ?_
    refine wo_aald hx hb hK hw 42 3 rfl rfl pp rfl (by first | assumption | omega) (by decide) (if_pos (by first | assumption | omega)) dX2_append_32 ?_
    refine lv_iload hx hb dX2_append_33 (lv_at hl 0 rfl) ?_
    refine lv_lload_n hx hb dX2_append_35 rfl (lv_at hl 4 rfl) ?_
    refine wo_last hx hb hK hw (43 + pp) 1 (rw_42 ca ad _ pp (by first | assumption | omega)) rfl kq rfl (by first | assumption | omega) (by decide) (se_42 ca ad (sI S (36 + pp) kq (nI bb)) pp (by first | assumption | omega) kq vv) dX2_append_36 (fun H locs hw => ?_)
    refine lv_aload_n hx hb dX2_append_37 rfl (lv_at hl 1 rfl) ?_
    refine wo_get hx hb hts inX2 hown hK hw 4 rfl rfl 0 (by decide) (hts _ wd_135) (fun _ h9 => h9) rfl dX2_append_38 ?_
    refine lv_iload_n hx hb dX2_append_41 rfl (lv_at hl 2 rfl) ?_
    refine lv_dup2_11 hx hb dX2_append_42 rfl rfl ?_
    refine wo_iald hx hb hK hw 34 0 rfl rfl pp rfl (by first | assumption | omega) (by decide) dX2_append_43 ?_
    refine tp_i (y := nI kq) (by rw [sL_1, sI_1, if_neg (by omega)]; exact hq) ?_
    refine lv_iconst (v := nI 1) hx hb dX2_append_44 (by decide) ?_
    refine lv_iadd hx hb dX2_append_45 ?_
    refine tp_i (nI_add kq 1) ?_
    refine wo_iast hx hb hK hw 34 0 rfl rfl pp rfl (by first | assumption | omega) (by decide) (se_34 ca ad (sL (sI S (36 + pp) kq (nI bb)) (43 + pp) kq vv) pp (nI (kq + 1))) dX2_append_46 (fun H locs hw => ?_)
    refine lv_iconst (v := nI 1) hx hb dX2_append_47 (by decide) ?_
    exact ct_zret (S := sI (sL (sI S (36 + pp) kq (nI bb)) (43 + pp) kq vv) 34 pp (nI (kq + 1))) (v := nI 1) hx hb hr hlocks hK (by first | decide | exact nb_z _) hw (⟨by simp only [bI, c_1, decide_true, decide_false, Bool.not_true, Bool.not_false, Bool.true_and, Bool.and_true, Bool.false_and, Bool.and_false, Bool.or_true, Bool.true_or, Bool.or_false, Bool.false_or, Bool.false_eq_true, Bool.true_eq_false, if_true, if_false, ↓reduceIte], by first | (rw [if_pos c_1]; rfl) | (rw [if_neg c_1])⟩) dX2_append_48
  · skip
    have c_1 : ¬ (kq < 8) := fun h9 => c_1 ((nI_ltI (a := kq) (b := 8) (by omega) (by omega)).mpr h9)
    refine lv_iconst (v := nI 0) hx hb dX2_append_15 (by decide) ?_
    exact ct_zret (S := S) (v := nI 0) hx hb hr hlocks hK (by first | decide | exact nb_z _) hw (⟨by simp only [bI, c_1, decide_true, decide_false, Bool.not_true, Bool.not_false, Bool.true_and, Bool.and_true, Bool.false_and, Bool.and_false, Bool.or_true, Bool.true_or, Bool.or_false, Bool.false_or, Bool.false_eq_true, Bool.true_eq_false, if_true, if_false, ↓reduceIte], by first | (rw [if_pos c_1]; rfl) | (rw [if_neg c_1])⟩) dX2_append_16

set_option maxHeartbeats 4000000 in
set_option maxRecDepth 100000 in
theorem kX2_removeFirst (l : Launch) (dC : Nat → ClassId) (dI : Nat → Nat → Nat) (ca : Nat → ClassId) (ad : Nat → Nat) (S : sSt) (pp : Nat) (kq : Nat) (hp6 : pp < 6) (hk8 : kq ≤ 7) (hq : S.1 34 pp = nI (kq + 1)) : ct_V l yX2_removeFirst (Cond.code yX2_removeFirst cX2_removeFirst 3 none :: wa_T) ({ frames := 0, cells := 0, slots := 0, locals := 0 } : Room) (dC, dI) vwCl (tyl ca) (wc ca ad) S [.ref (ad 4), .int (nI pp)] (fun S2 => S2 = qrem S pp kq) := by
  refine ct_ofV (by decide) (Nat.le_of_ble_eq_true rfl) ?_
  intro p e s m below meth c A ls hx hb hr hml hts hown hlocks hK hA hw hl
  have hl : lv_has ls 3 [(0, .ref (ad 4)), (1, .int (nI pp))] := hl
  refine lv_iconst (v := nI 1) hx hb dX2_removeFirst_0 (by decide) ?_
  refine lv_istore_n (lv' := [(2, .int (nI 1)), (0, .ref (ad 4)), (1, .int (nI pp))]) hx hb dX2_removeFirst_1 rfl hl (by decide) rfl (fun ls hl => ?_)
  have lp_2 : ∀ (n : Nat) (i : Nat), i ≤ kq → kq + 1 ≤ i + n → ∀ (H : Heap) (locs : List Loc) (ls : Array Slot), wo_w (dC, dI) vwCl A s.heap (wc ca ad (qsh S pp i)) H locs → lv_has ls 3 [(0, .ref (ad 4)), (1, .int (nI pp)), (2, .int (nI (i + 1)))] → W p l e ({ frames := 0, cells := 0, slots := 0, locals := 0 } : Room) s m ([.ref (ad 4), .int (nI pp)] : List Value).toArray below meth c H locs 0 0 (MQ below (va_Qv (fun S2 => S2 = qrem S pp kq) (ct_B (dC, dI) vwCl (tyl ca) (wc ca ad) A) A) ([.ref (ad 4), .int (nI pp)] : List Value).toArray s 0 0 A) (F0 m 2 ls []) := by
    intro n
    induction n with
    | zero =>
      intro i hi hn
      exfalso
      omega
    | succ n ih_2 =>
      intro i hi hn H locs ls hw hl
      refine lv_iload_n hx hb dX2_removeFirst_2 rfl (lv_at hl 2 rfl) ?_
      refine lv_aload_n hx hb dX2_removeFirst_3 rfl (lv_at hl 0 rfl) ?_
      refine wo_get hx hb hts inX2 hown hK hw 4 rfl rfl 0 (by decide) (hts _ wd_135) (fun _ h9 => h9) rfl dX2_removeFirst_4 ?_
      refine lv_iload_n hx hb dX2_removeFirst_7 rfl (lv_at hl 1 rfl) ?_
      refine wo_iald hx hb hK hw 34 0 rfl rfl pp rfl (by first | assumption | omega) (by decide) dX2_removeFirst_8 ?_
      refine tp_i (y := nI (kq + 1)) (by rw [qsh_34 S pp hp6 i]; exact hq) ?_
      refine lv_icmp_ge (tgt := 54) hx hb dX2_removeFirst_9 (by decide) (fun c_1 => ?_) (fun c_1 => ?_)
      · skip
        have c_1 : (kq + 1) ≤ (i + 1) := (nI_leI (a := kq + 1) (b := i + 1) (by omega) (by omega)).mp c_1
        obtain rfl : kq = i := by omega
        refine lv_aload_n hx hb dX2_removeFirst_54 rfl (lv_at hl 0 rfl) ?_
        refine wo_get hx hb hts inX2 hown hK hw 4 rfl rfl 0 (by decide) (hts _ wd_135) (fun _ h9 => h9) rfl dX2_removeFirst_55 ?_
        refine lv_iload_n hx hb dX2_removeFirst_58 rfl (lv_at hl 1 rfl) ?_
        refine lv_dup2_11 hx hb dX2_removeFirst_59 rfl rfl ?_
        refine wo_iald hx hb hK hw 34 0 rfl rfl pp rfl (by first | assumption | omega) (by decide) dX2_removeFirst_60 ?_
        refine tp_i (y := nI (kq + 1)) (by rw [qsh_34 S pp hp6 kq]; exact hq) ?_
        refine lv_iconst (v := nI 1) hx hb dX2_removeFirst_61 (by decide) ?_
        refine lv_isub hx hb dX2_removeFirst_62 ?_
        refine tp_i (pk_sub (a := kq + 1) (b := 1) (by omega)) ?_
        refine wo_iast hx hb hK hw 34 0 rfl rfl pp rfl (by first | assumption | omega) (by decide) (se_34 ca ad (qsh S pp kq) pp (nI ((kq + 1) - 1))) dX2_removeFirst_63 (fun H locs hw => ?_)
        exact ct_vret (S := sI (qsh S pp kq) 34 pp (nI ((kq + 1) - 1))) hx hb hr hlocks hK hw (rfl) dX2_removeFirst_64
      · skip
        have c_1 : ¬ ((kq + 1) ≤ (i + 1)) := fun h9 => c_1 ((nI_leI (a := kq + 1) (b := i + 1) (by omega) (by omega)).mpr h9)
        refine lv_aload_n hx hb dX2_removeFirst_12 rfl (lv_at hl 0 rfl) ?_
        refine wo_get hx hb hts inX2 hown hK hw 4 rfl rfl 1 (by decide) (hts _ wd_137) (fun _ h9 => h9) rfl dX2_removeFirst_13 ?_
        refine lv_iload_n hx hb dX2_removeFirst_16 rfl (lv_at hl 1 rfl) ?_
        refine wo_aald hx hb hK hw 35 4 rfl rfl pp rfl (by first | assumption | omega) (by decide) (if_pos (by first | assumption | omega)) dX2_removeFirst_17 ?_
        refine lv_iload_n hx hb dX2_removeFirst_18 rfl (lv_at hl 2 rfl) ?_
        refine lv_iconst (v := nI 1) hx hb dX2_removeFirst_19 (by decide) ?_
        refine lv_isub hx hb dX2_removeFirst_20 ?_
        refine tp_i (pk_sub (a := i + 1) (b := 1) (by omega)) ?_
        refine lv_aload_n hx hb dX2_removeFirst_21 rfl (lv_at hl 0 rfl) ?_
        refine wo_get hx hb hts inX2 hown hK hw 4 rfl rfl 1 (by decide) (hts _ wd_137) (fun _ h9 => h9) rfl dX2_removeFirst_22 ?_
        refine lv_iload_n hx hb dX2_removeFirst_25 rfl (lv_at hl 1 rfl) ?_
        refine wo_aald hx hb hK hw 35 4 rfl rfl pp rfl (by first | assumption | omega) (by decide) (if_pos (by first | assumption | omega)) dX2_removeFirst_26 ?_
        refine lv_iload_n hx hb dX2_removeFirst_27 rfl (lv_at hl 2 rfl) ?_
        refine wo_iald hx hb hK hw (36 + pp) 0 (rw_35 ca ad _ pp (by first | assumption | omega)) rfl (i + 1) rfl (by first | assumption | omega) (by decide) dX2_removeFirst_28 ?_
        refine wo_iast hx hb hK hw (36 + pp) 0 (rw_35 ca ad _ pp (by first | assumption | omega)) rfl ((i + 1) - 1) rfl (by first | assumption | omega) (by decide) (se_35 ca ad (qsh S pp i) pp (by first | assumption | omega) ((i + 1) - 1) ((qsh S pp i).1 (36 + pp) (i + 1))) dX2_removeFirst_29 (fun H locs hw => ?_)
        refine lv_aload_n hx hb dX2_removeFirst_30 rfl (lv_at hl 0 rfl) ?_
        refine wo_get hx hb hts inX2 hown hK hw 4 rfl rfl 2 (by decide) (hts _ wd_139) (fun _ h9 => h9) rfl dX2_removeFirst_31 ?_
        refine lv_iload_n hx hb dX2_removeFirst_34 rfl (lv_at hl 1 rfl) ?_
        refine wo_aald hx hb hK hw 42 3 rfl rfl pp rfl (by first | assumption | omega) (by decide) (if_pos (by first | assumption | omega)) dX2_removeFirst_35 ?_
        refine lv_iload_n hx hb dX2_removeFirst_36 rfl (lv_at hl 2 rfl) ?_
        refine lv_iconst (v := nI 1) hx hb dX2_removeFirst_37 (by decide) ?_
        refine lv_isub hx hb dX2_removeFirst_38 ?_
        refine tp_i (pk_sub (a := i + 1) (b := 1) (by omega)) ?_
        refine lv_aload_n hx hb dX2_removeFirst_39 rfl (lv_at hl 0 rfl) ?_
        refine wo_get hx hb hts inX2 hown hK hw 4 rfl rfl 2 (by decide) (hts _ wd_139) (fun _ h9 => h9) rfl dX2_removeFirst_40 ?_
        refine lv_iload_n hx hb dX2_removeFirst_43 rfl (lv_at hl 1 rfl) ?_
        refine wo_aald hx hb hK hw 42 3 rfl rfl pp rfl (by first | assumption | omega) (by decide) (if_pos (by first | assumption | omega)) dX2_removeFirst_44 ?_
        refine lv_iload_n hx hb dX2_removeFirst_45 rfl (lv_at hl 2 rfl) ?_
        refine wo_lald hx hb hK hw (43 + pp) 1 (rw_42 ca ad _ pp (by first | assumption | omega)) rfl (i + 1) rfl (by first | assumption | omega) (by decide) dX2_removeFirst_46 ?_
        refine wo_last hx hb hK hw (43 + pp) 1 (rw_42 ca ad _ pp (by first | assumption | omega)) rfl ((i + 1) - 1) rfl (by first | assumption | omega) (by decide) (se_42 ca ad (sI (qsh S pp i) (36 + pp) ((i + 1) - 1) ((qsh S pp i).1 (36 + pp) (i + 1))) pp (by first | assumption | omega) ((i + 1) - 1) ((sI (qsh S pp i) (36 + pp) ((i + 1) - 1) ((qsh S pp i).1 (36 + pp) (i + 1))).2 (43 + pp) (i + 1))) dX2_removeFirst_47 (fun H locs hw => ?_)
        refine lv_iinc (v := nI ((i + 1) + 1)) (lv' := [(2, .int (nI ((i + 1) + 1))), (0, .ref (ad 4)), (1, .int (nI pp))]) hx hb dX2_removeFirst_48 hl (k := 2) rfl (nI_inc _) (by decide) rfl (fun ls hl => ?_)
        refine lv_goto (tgt := 2) hx hb dX2_removeFirst_51 (by decide) ?_
        have e9 : sL (sI (qsh S pp i) (36 + pp) ((i + 1) - 1) ((qsh S pp i).1 (36 + pp) (i + 1))) (43 + pp) ((i + 1) - 1) ((sI (qsh S pp i) (36 + pp) ((i + 1) - 1) ((qsh S pp i).1 (36 + pp) (i + 1))).2 (43 + pp) (i + 1)) = qsh S pp (i + 1) := rfl
        rw [e9] at hw
        exact ih_2 (i + 1) (by omega) (by omega) _ _ _ hw (lv_sub hl [1, 2, 0] rfl)
  have e9 : nI 1 = nI (0 + 1) := rfl
  rw [e9] at hl
  have e9 : S = qsh S pp 0 := rfl
  rw [e9] at hw
  exact lp_2 (kq + 1) 0 (by omega) (by omega) _ _ _ hw (lv_sub hl [1, 2, 0] rfl)

set_option maxHeartbeats 4000000 in
set_option maxRecDepth 100000 in
theorem kX2_clear (l : Launch) (dC : Nat → ClassId) (dI : Nat → Nat → Nat) (ca : Nat → ClassId) (ad : Nat → Nat) (S : sSt) (pp : Nat) (hp6 : pp < 6) : ct_V l yX2_clear (Cond.code yX2_clear cX2_clear 2 none :: wa_T) ({ frames := 0, cells := 0, slots := 0, locals := 0 } : Room) (dC, dI) vwCl (tyl ca) (wc ca ad) S [.ref (ad 4), .int (nI pp)] (fun S2 => S2 = sI S 34 pp (nI 0)) := by
  refine ct_ofV (by decide) (Nat.le_of_ble_eq_true rfl) ?_
  intro p e s m below meth c A ls hx hb hr hml hts hown hlocks hK hA hw hl
  have hl : lv_has ls 2 [(0, .ref (ad 4)), (1, .int (nI pp))] := hl
  refine lv_aload_n hx hb dX2_clear_0 rfl (lv_at hl 0 rfl) ?_
  refine wo_get hx hb hts inX2 hown hK hw 4 rfl rfl 0 (by decide) (hts _ wd_135) (fun _ h9 => h9) rfl dX2_clear_1 ?_
  refine lv_iload_n hx hb dX2_clear_4 rfl (lv_at hl 1 rfl) ?_
  refine lv_iconst (v := nI 0) hx hb dX2_clear_5 (by decide) ?_
  refine wo_iast hx hb hK hw 34 0 rfl rfl pp rfl (by first | assumption | omega) (by decide) (se_34 ca ad S pp (nI 0)) dX2_clear_6 (fun H locs hw => ?_)
  exact ct_vret (S := sI S 34 pp (nI 0)) hx hb hr hlocks hK hw (rfl) dX2_clear_7
