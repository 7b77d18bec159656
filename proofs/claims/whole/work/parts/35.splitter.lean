theorem dX4_allWeights_0 : decode cX4_allWeights 0 = .ok (.lconst 0, 1) := by decide +kernel
theorem dX4_allWeights_1 : decode cX4_allWeights 1 = .ok (.lstore_n 1, 1) := by decide +kernel
theorem dX4_allWeights_2 : decode cX4_allWeights 2 = .ok (.iconst 0, 1) := by decide +kernel
theorem dX4_allWeights_3 : decode cX4_allWeights 3 = .ok (.istore_n 3, 1) := by decide +kernel
theorem dX4_allWeights_4 : decode cX4_allWeights 4 = .ok (.iload_n 3, 1) := by decide +kernel
theorem dX4_allWeights_5 : decode cX4_allWeights 5 = .ok (.bipush 6, 2) := by decide +kernel
theorem dX4_allWeights_7 : decode cX4_allWeights 7 = .ok (.if_icmp .ge 18, 3) := by decide +kernel
theorem dX4_allWeights_10 : decode cX4_allWeights 10 = .ok (.lload_n 1, 1) := by decide +kernel
theorem dX4_allWeights_11 : decode cX4_allWeights 11 = .ok (.aload_n 0, 1) := by decide +kernel
theorem dX4_allWeights_12 : decode cX4_allWeights 12 = .ok (.getfield 9, 3) := by decide +kernel
theorem dX4_allWeights_15 : decode cX4_allWeights 15 = .ok (.iload_n 3, 1) := by decide +kernel
theorem dX4_allWeights_16 : decode cX4_allWeights 16 = .ok (.laload, 1) := by decide +kernel
theorem dX4_allWeights_17 : decode cX4_allWeights 17 = .ok (.ladd, 1) := by decide +kernel
theorem dX4_allWeights_18 : decode cX4_allWeights 18 = .ok (.lstore_n 1, 1) := by decide +kernel
theorem dX4_allWeights_19 : decode cX4_allWeights 19 = .ok (.iinc 3 1, 3) := by decide +kernel
theorem dX4_allWeights_22 : decode cX4_allWeights 22 = .ok (.goto (-18), 3) := by decide +kernel
theorem dX4_allWeights_25 : decode cX4_allWeights 25 = .ok (.lload_n 1, 1) := by decide +kernel
theorem dX4_allWeights_26 : decode cX4_allWeights 26 = .ok (.lreturn, 1) := by decide +kernel

theorem dX4_greatestRest_0 : decode cX4_greatestRest 0 = .ok (.iconst 0, 1) := by decide +kernel
theorem dX4_greatestRest_1 : decode cX4_greatestRest 1 = .ok (.istore_n 1, 1) := by decide +kernel
theorem dX4_greatestRest_2 : decode cX4_greatestRest 2 = .ok (.iconst 1, 1) := by decide +kernel
theorem dX4_greatestRest_3 : decode cX4_greatestRest 3 = .ok (.istore_n 2, 1) := by decide +kernel
theorem dX4_greatestRest_4 : decode cX4_greatestRest 4 = .ok (.iload_n 2, 1) := by decide +kernel
theorem dX4_greatestRest_5 : decode cX4_greatestRest 5 = .ok (.bipush 6, 2) := by decide +kernel
theorem dX4_greatestRest_7 : decode cX4_greatestRest 7 = .ok (.if_icmp .ge 27, 3) := by decide +kernel
theorem dX4_greatestRest_10 : decode cX4_greatestRest 10 = .ok (.aload_n 0, 1) := by decide +kernel
theorem dX4_greatestRest_11 : decode cX4_greatestRest 11 = .ok (.getfield 18, 3) := by decide +kernel
theorem dX4_greatestRest_14 : decode cX4_greatestRest 14 = .ok (.iload_n 2, 1) := by decide +kernel
theorem dX4_greatestRest_15 : decode cX4_greatestRest 15 = .ok (.laload, 1) := by decide +kernel
theorem dX4_greatestRest_16 : decode cX4_greatestRest 16 = .ok (.aload_n 0, 1) := by decide +kernel
theorem dX4_greatestRest_17 : decode cX4_greatestRest 17 = .ok (.getfield 18, 3) := by decide +kernel
theorem dX4_greatestRest_20 : decode cX4_greatestRest 20 = .ok (.iload_n 1, 1) := by decide +kernel
theorem dX4_greatestRest_21 : decode cX4_greatestRest 21 = .ok (.laload, 1) := by decide +kernel
theorem dX4_greatestRest_22 : decode cX4_greatestRest 22 = .ok (.lcmp, 1) := by decide +kernel
theorem dX4_greatestRest_23 : decode cX4_greatestRest 23 = .ok (.ifCond .le 5, 3) := by decide +kernel
theorem dX4_greatestRest_26 : decode cX4_greatestRest 26 = .ok (.iload_n 2, 1) := by decide +kernel
theorem dX4_greatestRest_27 : decode cX4_greatestRest 27 = .ok (.istore_n 1, 1) := by decide +kernel
theorem dX4_greatestRest_28 : decode cX4_greatestRest 28 = .ok (.iinc 2 1, 3) := by decide +kernel
theorem dX4_greatestRest_31 : decode cX4_greatestRest 31 = .ok (.goto (-27), 3) := by decide +kernel
theorem dX4_greatestRest_34 : decode cX4_greatestRest 34 = .ok (.iload_n 1, 1) := by decide +kernel
theorem dX4_greatestRest_35 : decode cX4_greatestRest 35 = .ok (.ireturn, 1) := by decide +kernel

set_option maxHeartbeats 4000000 in
set_option maxRecDepth 100000 in
theorem kX4_allWeights (l : Launch) (dC : Nat → ClassId) (dI : Nat → Nat → Nat) (ca : Nat → ClassId) (ad : Nat → Nat) (S : sSt)  : ct_L l yX4_allWeights (Cond.code yX4_allWeights cX4_allWeights 4 (some .long) :: wa_T) ({ frames := 0, cells := 0, slots := 0, locals := 0 } : Room) (dC, dI) vwCl (tyl ca) (wc ca ad) S [.ref (ad 5)] (fun r S2 => r = sumW S 6 ∧ S2 = S) := by
  refine ct_ofL (by decide) (Nat.le_of_ble_eq_true rfl) ?_
  intro p e s m below meth c A ls hx hb hr hml hts hown hlocks hK hA hw hl
  have hl : lv_has ls 4 [(0, .ref (ad 5))] := hl
  refine lv_lconst (v := 0) hx hb dX4_allWeights_0 (by decide) ?_
  refine lv_lstore_n (lv' := [(1, .long 0), (0, .ref (ad 5))]) hx hb dX4_allWeights_1 rfl hl (by decide) rfl (fun ls hl => ?_)
  refine lv_iconst (v := nI 0) hx hb dX4_allWeights_2 (by decide) ?_
  refine lv_istore_n (lv' := [(3, .int (nI 0)), (1, .long 0), (0, .ref (ad 5))]) hx hb dX4_allWeights_3 rfl hl (by decide) rfl (fun ls hl => ?_)
  have lp_4 : ∀ (n : Nat) (i : Nat), i ≤ 6 → 7 ≤ i + n → ∀ (H : Heap) (locs : List Loc) (ls : Array Slot), wo_w (dC, dI) vwCl A s.heap (wc ca ad S) H locs → lv_has ls 4 [(0, .ref (ad 5)), (1, .long (sumW S i)), (3, .int (nI i))] → W p l e ({ frames := 0, cells := 0, slots := 0, locals := 0 } : Room) s m ([.ref (ad 5)] : List Value).toArray below meth c H locs 0 0 (MQ below (va_Ql (fun r S2 => r = sumW S 6 ∧ S2 = S) (ct_B (dC, dI) vwCl (tyl ca) (wc ca ad) A) A) ([.ref (ad 5)] : List Value).toArray s 0 0 A) (F0 m 4 ls []) := by
    intro n
    induction n with
    | zero =>
      intro i hi hn
      exfalso
      omega
    | succ n ih_4 =>
      intro i hi hn H locs ls hw hl
      refine lv_iload_n hx hb dX4_allWeights_4 rfl (lv_at hl 2 rfl) ?_
      refine lv_bipush (v := nI 6) hx hb dX4_allWeights_5 (by decide) ?_
      refine lv_icmp_ge (tgt := 25) hx hb dX4_allWeights_7 (by decide) (fun c_1 => ?_) (fun c_1 => ?_)
      · skip
        have c_1 : 6 ≤ i := (nI_leI (a := 6) (b := i) (by omega) (by omega)).mp c_1
        obtain rfl : 6 = i := by omega
        refine lv_lload_n hx hb dX4_allWeights_25 rfl (lv_at hl 1 rfl) ?_
        exact ct_lret (S := S) (v := sumW S 6) hx hb hr hlocks hK hw (⟨rfl, rfl⟩) dX4_allWeights_26
      · skip
        have c_1 : ¬ (6 ≤ i) := fun h9 => c_1 ((nI_leI (a := 6) (b := i) (by omega) (by omega)).mpr h9)
        refine lv_lload_n hx hb dX4_allWeights_10 rfl (lv_at hl 1 rfl) ?_
        refine lv_aload_n hx hb dX4_allWeights_11 rfl (lv_at hl 0 rfl) ?_
        refine wo_get hx hb hts inX4 hown hK hw 5 rfl rfl 0 (by decide) (hts _ wd_154) (fun _ h9 => h9) rfl dX4_allWeights_12 ?_
        refine lv_iload_n hx hb dX4_allWeights_15 rfl (lv_at hl 2 rfl) ?_
        refine wo_lald hx hb hK hw 49 1 rfl rfl i rfl (by first | assumption | omega) (by decide) dX4_allWeights_16 ?_
        refine lv_ladd hx hb dX4_allWeights_17 ?_
        refine lv_lstore_n (lv' := [(1, .long ((sumW S i) + (S.2 49 i))), (0, .ref (ad 5)), (3, .int (nI i))]) hx hb dX4_allWeights_18 rfl hl (by decide) rfl (fun ls hl => ?_)
        refine lv_iinc (v := nI (i + 1)) (lv' := [(3, .int (nI (i + 1))), (1, .long ((sumW S i) + (S.2 49 i))), (0, .ref (ad 5))]) hx hb dX4_allWeights_19 hl (k := 2) rfl (nI_inc _) (by decide) rfl (fun ls hl => ?_)
        refine lv_goto (tgt := 4) hx hb dX4_allWeights_22 (by decide) ?_
        have e9 : (sumW S i) + (S.2 49 i) = sumW S (i + 1) := rfl
        rw [e9] at hl
        exact ih_4 (i + 1) (by omega) (by omega) _ _ _ hw (lv_sub hl [2, 1, 0] rfl)
  have e9 : 0 = sumW S 0 := rfl
  rw [e9] at hl
  exact lp_4 7 0 (by omega) (by omega) _ _ _ hw (lv_sub hl [2, 1, 0] rfl)

set_option maxHeartbeats 4000000 in
set_option maxRecDepth 100000 in
theorem kX4_greatestRest (l : Launch) (dC : Nat → ClassId) (dI : Nat → Nat → Nat) (ca : Nat → ClassId) (ad : Nat → Nat) (S : sSt)  : ct_I l yX4_greatestRest (Cond.code yX4_greatestRest cX4_greatestRest 3 (some .int) :: wa_T) ({ frames := 0, cells := 0, slots := 0, locals := 0 } : Room) (dC, dI) vwCl (tyl ca) (wc ca ad) S [.ref (ad 5)] (fun r S2 => r = nI (gRest S 5) ∧ S2 = S) := by
  refine ct_ofI (by decide) (Nat.le_of_ble_eq_true rfl) ?_
  intro p e s m below meth c A ls hx hb hr hml hts hown hlocks hK hA hw hl
  have hl : lv_has ls 3 [(0, .ref (ad 5))] := hl
  refine lv_iconst (v := nI 0) hx hb dX4_greatestRest_0 (by decide) ?_
  refine lv_istore_n (lv' := [(1, .int (nI 0)), (0, .ref (ad 5))]) hx hb dX4_greatestRest_1 rfl hl (by decide) rfl (fun ls hl => ?_)
  refine lv_iconst (v := nI 1) hx hb dX4_greatestRest_2 (by decide) ?_
  refine lv_istore_n (lv' := [(2, .int (nI 1)), (1, .int (nI 0)), (0, .ref (ad 5))]) hx hb dX4_greatestRest_3 rfl hl (by decide) rfl (fun ls hl => ?_)
  have lp_4 : ∀ (n : Nat) (i : Nat), i ≤ 5 → 6 ≤ i + n → ∀ (H : Heap) (locs : List Loc) (ls : Array Slot), wo_w (dC, dI) vwCl A s.heap (wc ca ad S) H locs → lv_has ls 3 [(0, .ref (ad 5)), (1, .int (nI (gRest S i))), (2, .int (nI (i + 1)))] → W p l e ({ frames := 0, cells := 0, slots := 0, locals := 0 } : Room) s m ([.ref (ad 5)] : List Value).toArray below meth c H locs 0 0 (MQ below (va_Qi (fun r S2 => r = nI (gRest S 5) ∧ S2 = S) (ct_B (dC, dI) vwCl (tyl ca) (wc ca ad) A) A) ([.ref (ad 5)] : List Value).toArray s 0 0 A) (F0 m 4 ls []) := by
    intro n
    induction n with
    | zero =>
      intro i hi hn
      exfalso
      omega
    | succ n ih_4 =>
      intro i hi hn H locs ls hw hl
      have hg := gRest_le S i
      refine lv_iload_n hx hb dX4_greatestRest_4 rfl (lv_at hl 2 rfl) ?_
      refine lv_bipush (v := nI 6) hx hb dX4_greatestRest_5 (by decide) ?_
      refine lv_icmp_ge (tgt := 34) hx hb dX4_greatestRest_7 (by decide) (fun c_1 => ?_) (fun c_1 => ?_)
      · skip
        have c_1 : 6 ≤ (i + 1) := (nI_leI (a := 6) (b := i + 1) (by omega) (by omega)).mp c_1
        obtain rfl : 5 = i := by omega
        refine lv_iload_n hx hb dX4_greatestRest_34 rfl (lv_at hl 1 rfl) ?_
        exact ct_iret (S := S) (v := nI (gRest S 5)) hx hb hr hlocks hK hw (⟨rfl, rfl⟩) dX4_greatestRest_35
      · skip
        have c_1 : ¬ (6 ≤ (i + 1)) := fun h9 => c_1 ((nI_leI (a := 6) (b := i + 1) (by omega) (by omega)).mpr h9)
        refine lv_aload_n hx hb dX4_greatestRest_10 rfl (lv_at hl 0 rfl) ?_
        refine wo_get hx hb hts inX4 hown hK hw 5 rfl rfl 2 (by decide) (hts _ wd_158) (fun _ h9 => h9) rfl dX4_greatestRest_11 ?_
        refine lv_iload_n hx hb dX4_greatestRest_14 rfl (lv_at hl 2 rfl) ?_
        refine wo_lald hx hb hK hw 51 1 rfl rfl (i + 1) rfl (by first | assumption | omega) (by decide) dX4_greatestRest_15 ?_
        refine lv_aload_n hx hb dX4_greatestRest_16 rfl (lv_at hl 0 rfl) ?_
        refine wo_get hx hb hts inX4 hown hK hw 5 rfl rfl 2 (by decide) (hts _ wd_158) (fun _ h9 => h9) rfl dX4_greatestRest_17 ?_
        refine lv_iload_n hx hb dX4_greatestRest_20 rfl (lv_at hl 1 rfl) ?_
        refine wo_lald hx hb hK hw 51 1 rfl rfl (gRest S i) rfl (by first | assumption | omega) (by decide) dX4_greatestRest_21 ?_
        refine lc_le (tgt := 28) hx hb dX4_greatestRest_22 dX4_greatestRest_23 (by decide) (fun c_2 => ?_) (fun c_2 => ?_)
        · skip
          refine lv_iinc (v := nI ((i + 1) + 1)) (lv' := [(2, .int (nI ((i + 1) + 1))), (0, .ref (ad 5)), (1, .int (nI (gRest S i)))]) hx hb dX4_greatestRest_28 hl (k := 2) rfl (nI_inc _) (by decide) rfl (fun ls hl => ?_)
          refine lv_goto (tgt := 4) hx hb dX4_greatestRest_31 (by decide) ?_
          have e9 : nI (gRest S i) = nI (gRest S (i + 1)) := by first | rfl | (simp only [gRest, c_1, c_2, ↓reduceIte]; done)
          rw [e9] at hl
          exact ih_4 (i + 1) (by omega) (by omega) _ _ _ hw (lv_sub hl [1, 2, 0] rfl)
        · skip
          refine lv_iload_n hx hb dX4_greatestRest_26 rfl (lv_at hl 2 rfl) ?_
          refine lv_istore_n (lv' := [(1, .int (nI (i + 1))), (0, .ref (ad 5)), (2, .int (nI (i + 1)))]) hx hb dX4_greatestRest_27 rfl hl (by decide) rfl (fun ls hl => ?_)
          refine lv_iinc (v := nI ((i + 1) + 1)) (lv' := [(2, .int (nI ((i + 1) + 1))), (1, .int (nI (i + 1))), (0, .ref (ad 5))]) hx hb dX4_greatestRest_28 hl (k := 2) rfl (nI_inc _) (by decide) rfl (fun ls hl => ?_)
          refine lv_goto (tgt := 4) hx hb dX4_greatestRest_31 (by decide) ?_
          have e9 : nI (i + 1) = nI (gRest S (i + 1)) := by first | rfl | (simp only [gRest, c_1, c_2, ↓reduceIte]; done)
          rw [e9] at hl
          exact ih_4 (i + 1) (by omega) (by omega) _ _ _ hw (lv_sub hl [2, 1, 0] rfl)
  have e9 : nI 0 = nI (gRest S 0) := by first | rfl | (simp only [gRest, ↓reduceIte]; done)
  rw [e9] at hl
  have e9 : nI 1 = nI (0 + 1) := by first | rfl | (simp only [gRest, ↓reduceIte]; done)
  rw [e9] at hl
  exact lp_4 6 0 (by omega) (by omega) _ _ _ hw (lv_sub hl [2, 1, 0] rfl)
