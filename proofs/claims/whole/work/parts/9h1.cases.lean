set_option maxHeartbeats 4000000 in
set_option maxRecDepth 100000 in
theorem lc_weigh {p : Program} {l : Launch} {e : Env} {s : State} {m : MethodId} {below : List Frame} {meth : Method} {c : Code} {dC : Nat → ClassId} {dI : Nat → Nat → Nat} {ca : Nat → ClassId} {ad md : Nat → Nat} {oa b L i cells slots : Nat} {xs : Nat → Int32} {S M : sSt} {f : Nat → Int64} {H : Heap} {locs : List Loc} {ls : Array Slot} {Q : State → Prop} (C0 : LC p l s m meth c dC dI ca b L xs) (hi : i + 7 ≤ L) (hR : RE S M) (hc : cells + 1 ≤ 601024) (hs : slots + 6 ≤ 7293033) (hw : wo_w (dC, dI) vwCl (lwA s) s.heap (wL ca ad md oa S M f) H locs) (hl : lv_has ls 8 (lwl b oa i ad md)) (kk : lw_N p l e s m below meth c dC dI ca ad md oa b i cells slots Q) : W p l e room_1 s m #[Value.ref b] below meth c H locs cells slots Q (F0 m 124 ls []) := by
  obtain ⟨hx, hb, hr, hml, hown, hts, hX, hbl, hlocks, hK, hZ, hL, htr⟩ := C0
  have hA : ∀ q : Nat, s.heap.size ≤ q → lwA s q := fun _ h => h
  have hbA : ¬ lwA s b := Nat.not_le.mpr hbl
  obtain ⟨nb, nr, hR⟩ := hR
  obtain ⟨hb6, hr2, hri, hmi, hRWs, hRWm⟩ := RR_h hR
  refine lv_aload_n hx hb dL_law_124 rfl (lv_at hl 3 rfl) ?_
  refine lv_aload_n hx hb dL_law_125 rfl (lv_at hl 4 rfl) ?_
  refine lv_iload hx hb dL_law_126 (lv_at hl 0 rfl) ?_
  refine lv_iconst (v := nI 1) hx hb dL_law_128 (by decide) ?_
  refine lv_iadd hx hb dL_law_129 ?_
  refine tp_i (nI_add i 1) ?_
  refine ws_ld hx hb hX hbl hbA hw (j := i + 1) (by omega) hL dL_law_130 ?_
  refine lv_aload_n hx hb dL_law_131 rfl (lv_at hl 4 rfl) ?_
  refine lv_iload hx hb dL_law_132 (lv_at hl 0 rfl) ?_
  refine lv_iconst (v := nI 2) hx hb dL_law_134 (by decide) ?_
  refine lv_iadd hx hb dL_law_135 ?_
  refine tp_i (nI_add i 2) ?_
  refine ws_ld hx hb hX hbl hbA hw (j := i + 2) (by omega) hL dL_law_136 ?_
  refine lv_i2l hx hb dL_law_137 rfl ?_
  refine lv_bipush (v := nI 32) hx hb dL_law_138 (by decide) ?_
  refine lv_lshl hx hb dL_law_140 rfl ?_
  refine lv_aload_n hx hb dL_law_141 rfl (lv_at hl 4 rfl) ?_
  refine lv_iload hx hb dL_law_142 (lv_at hl 0 rfl) ?_
  refine lv_iconst (v := nI 3) hx hb dL_law_144 (by decide) ?_
  refine lv_iadd hx hb dL_law_145 ?_
  refine tp_i (nI_add i 3) ?_
  refine ws_ld hx hb hX hbl hbA hw (j := i + 3) (by omega) hL dL_law_146 ?_
  refine lv_i2l hx hb dL_law_147 rfl ?_
  refine lv_ldc2 hx hb hown (hts _ wd_781) dL_law_148 ?_
  refine lv_land hx hb dL_law_151 ?_
  refine lv_lor hx hb dL_law_152 ?_
  refine tp_l (y := lj (xs (i + 2)) (xs (i + 3))) rfl ?_
  refine lx_I (w1 := []) (wd := wc ca ad) (S := S) (w2 := wO ca oa f ++ wq ca md M) (As := [.int (xs (i + 1)), .long (lj (xs (i + 2)) (xs (i + 3)))]) (rest := []) (kX5_weigh l dC dI ca ad S (xs (i + 1)) (lj (xs (i + 2)) (xs (i + 3))) ) ⟨hx, hb, hml, hown, hts⟩ (cwV 2 hts (wa_gV wd_188 wd_189 wd_190 wd_1 wd_191) rfl rfl rfl (by decide +kernel) ⟨Nat.le_of_ble_eq_true rfl, Nat.le_of_ble_eq_true rfl⟩) hK (wl_x hw) hA 0 rfl rfl rfl rfl hl.1 rfl (Nat.le_of_ble_eq_true rfl) dL_law_153 ⟨show cells + 0 ≤ 601024 by omega, show slots + 0 ≤ 7293033 by omega⟩ (fun r_1 S_1 H locs hp_1 hw => ?_)
  have hw := wl_xb hw
  refine lv_aload_n hx hb dL_law_156 rfl (lv_at hl 2 rfl) ?_
  refine lv_aload_n hx hb dL_law_157 rfl (lv_at hl 4 rfl) ?_
  refine lv_iload hx hb dL_law_158 (lv_at hl 0 rfl) ?_
  refine lv_iconst (v := nI 1) hx hb dL_law_160 (by decide) ?_
  refine lv_iadd hx hb dL_law_161 ?_
  refine tp_i (nI_add i 1) ?_
  refine ws_ld hx hb hX hbl hbA hw (j := i + 1) (by omega) hL dL_law_162 ?_
  refine lv_aload_n hx hb dL_law_163 rfl (lv_at hl 4 rfl) ?_
  refine lv_iload hx hb dL_law_164 (lv_at hl 0 rfl) ?_
  refine lv_iconst (v := nI 2) hx hb dL_law_166 (by decide) ?_
  refine lv_iadd hx hb dL_law_167 ?_
  refine tp_i (nI_add i 2) ?_
  refine ws_ld hx hb hX hbl hbA hw (j := i + 2) (by omega) hL dL_law_168 ?_
  refine lv_i2l hx hb dL_law_169 rfl ?_
  refine lv_bipush (v := nI 32) hx hb dL_law_170 (by decide) ?_
  refine lv_lshl hx hb dL_law_172 rfl ?_
  refine lv_aload_n hx hb dL_law_173 rfl (lv_at hl 4 rfl) ?_
  refine lv_iload hx hb dL_law_174 (lv_at hl 0 rfl) ?_
  refine lv_iconst (v := nI 3) hx hb dL_law_176 (by decide) ?_
  refine lv_iadd hx hb dL_law_177 ?_
  refine tp_i (nI_add i 3) ?_
  refine ws_ld hx hb hX hbl hbA hw (j := i + 3) (by omega) hL dL_law_178 ?_
  refine lv_i2l hx hb dL_law_179 rfl ?_
  refine lv_ldc2 hx hb hown (hts _ wd_781) dL_law_180 ?_
  refine lv_land hx hb dL_law_183 ?_
  refine lv_lor hx hb dL_law_184 ?_
  refine tp_l (y := lj (xs (i + 2)) (xs (i + 3))) rfl ?_
  refine lx_I (w1 := wc ca ad S_1 ++ wO ca oa f) (wd := wq ca md) (S := M) (w2 := []) (As := [.int (xs (i + 1)), .long (lj (xs (i + 2)) (xs (i + 3)))]) (rest := [.int r_1]) (kX6_weigh l dC dI ca md M (xs (i + 1)) (lj (xs (i + 2)) (xs (i + 3))) ) ⟨hx, hb, hml, hown, hts⟩ (cwV 2 hts (wa_gV wd_651 wd_652 wd_653 wd_8 wd_654) rfl rfl rfl (by decide +kernel) ⟨Nat.le_of_ble_eq_true rfl, Nat.le_of_ble_eq_true rfl⟩) hK (wl_m hw) hA 0 rfl rfl rfl rfl hl.1 rfl (Nat.le_of_ble_eq_true rfl) dL_law_185 ⟨show cells + 0 ≤ 601024 by omega, show slots + 0 ≤ 7293033 by omega⟩ (fun r_2 M_2 H locs hp_2 hw => ?_)
  have hw := wl_mb hw
  obtain ⟨e9, hR2⟩ := ls_weigh hR hp_1 hp_2
  refine lv_icmp_eq (tgt := 1184) hx hb dL_law_188 (by decide) (fun _ => ?_) (fun h9 => absurd e9 h9)
  exact W.widen (Nat.le_add_right _ _) (Nat.le_add_right _ _) (kk _ _ _ _ _ _ hR2 hw hl)

set_option maxHeartbeats 4000000 in
set_option maxRecDepth 100000 in
theorem lc_patient {p : Program} {l : Launch} {e : Env} {s : State} {m : MethodId} {below : List Frame} {meth : Method} {c : Code} {dC : Nat → ClassId} {dI : Nat → Nat → Nat} {ca : Nat → ClassId} {ad md : Nat → Nat} {oa b L i cells slots : Nat} {xs : Nat → Int32} {S M : sSt} {f : Nat → Int64} {H : Heap} {locs : List Loc} {ls : Array Slot} {Q : State → Prop} (C0 : LC p l s m meth c dC dI ca b L xs) (hi : i + 7 ≤ L) (hR : RE S M) (hc : cells + 1 ≤ 601024) (hs : slots + 6 ≤ 7293033) (hw : wo_w (dC, dI) vwCl (lwA s) s.heap (wL ca ad md oa S M f) H locs) (hl : lv_has ls 8 (lwl b oa i ad md)) (kk : lw_N p l e s m below meth c dC dI ca ad md oa b i cells slots Q) : W p l e room_1 s m #[Value.ref b] below meth c H locs cells slots Q (F0 m 371 ls []) := by
  obtain ⟨hx, hb, hr, hml, hown, hts, hX, hbl, hlocks, hK, hZ, hL, htr⟩ := C0
  have hA : ∀ q : Nat, s.heap.size ≤ q → lwA s q := fun _ h => h
  have hbA : ¬ lwA s b := Nat.not_le.mpr hbl
  obtain ⟨nb, nr, hR⟩ := hR
  obtain ⟨hb6, hr2, hri, hmi, hRWs, hRWm⟩ := RR_h hR
  refine lv_aload_n hx hb dL_law_371 rfl (lv_at hl 3 rfl) ?_
  refine lv_aload_n hx hb dL_law_372 rfl (lv_at hl 4 rfl) ?_
  refine lv_iload hx hb dL_law_373 (lv_at hl 0 rfl) ?_
  refine lv_iconst (v := nI 1) hx hb dL_law_375 (by decide) ?_
  refine lv_iadd hx hb dL_law_376 ?_
  refine tp_i (nI_add i 1) ?_
  refine ws_ld hx hb hX hbl hbA hw (j := i + 1) (by omega) hL dL_law_377 ?_
  refine lv_aload_n hx hb dL_law_378 rfl (lv_at hl 4 rfl) ?_
  refine lv_iload hx hb dL_law_379 (lv_at hl 0 rfl) ?_
  refine lv_iconst (v := nI 2) hx hb dL_law_381 (by decide) ?_
  refine lv_iadd hx hb dL_law_382 ?_
  refine tp_i (nI_add i 2) ?_
  refine ws_ld hx hb hX hbl hbA hw (j := i + 2) (by omega) hL dL_law_383 ?_
  refine lv_if_eq (tgt := 391) hx hb dL_law_384 (by decide) (fun c9 => ?_) (fun c9 => ?_)
  · skip
    refine lv_iconst (v := bI false) hx hb dL_law_391 (by decide) ?_
    refine lx_I (w1 := []) (wd := wc ca ad) (S := S) (w2 := wO ca oa f ++ wq ca md M) (As := [.int (xs (i + 1)), .int (bI false)]) (rest := []) (kX5_patient l dC dI ca ad S (xs (i + 1)) false ) ⟨hx, hb, hml, hown, hts⟩ (cwV 2 hts (wa_gV wd_200 wd_201 wd_202 wd_1 wd_203) rfl rfl rfl (by decide +kernel) ⟨Nat.le_of_ble_eq_true rfl, Nat.le_of_ble_eq_true rfl⟩) hK (wl_x hw) hA 0 rfl rfl rfl rfl hl.1 rfl (Nat.le_of_ble_eq_true rfl) dL_law_392 ⟨show cells + 0 ≤ 601024 by omega, show slots + 0 ≤ 7293033 by omega⟩ (fun r_1 S_1 H locs hp_1 hw => ?_)
    have hw := wl_xb hw
    refine lv_aload_n hx hb dL_law_395 rfl (lv_at hl 2 rfl) ?_
    refine lv_aload_n hx hb dL_law_396 rfl (lv_at hl 4 rfl) ?_
    refine lv_iload hx hb dL_law_397 (lv_at hl 0 rfl) ?_
    refine lv_iconst (v := nI 1) hx hb dL_law_399 (by decide) ?_
    refine lv_iadd hx hb dL_law_400 ?_
    refine tp_i (nI_add i 1) ?_
    refine ws_ld hx hb hX hbl hbA hw (j := i + 1) (by omega) hL dL_law_401 ?_
    refine lv_aload_n hx hb dL_law_402 rfl (lv_at hl 4 rfl) ?_
    refine lv_iload hx hb dL_law_403 (lv_at hl 0 rfl) ?_
    refine lv_iconst (v := nI 2) hx hb dL_law_405 (by decide) ?_
    refine lv_iadd hx hb dL_law_406 ?_
    refine tp_i (nI_add i 2) ?_
    refine ws_ld hx hb hX hbl hbA hw (j := i + 2) (by omega) hL dL_law_407 ?_
    refine lv_if_eq (tgt := 415) hx hb dL_law_408 (by decide) (fun _ => ?_) (fun c8 => absurd c9 c8)
    refine lv_iconst (v := bI false) hx hb dL_law_415 (by decide) ?_
    refine lx_I (w1 := wc ca ad S_1 ++ wO ca oa f) (wd := wq ca md) (S := M) (w2 := []) (As := [.int (xs (i + 1)), .int (bI false)]) (rest := [.int r_1]) (kX6_patient l dC dI ca md M (xs (i + 1)) false ) ⟨hx, hb, hml, hown, hts⟩ (cwV 2 hts (wa_gV wd_683 wd_684 wd_685 wd_8 wd_686) rfl rfl rfl (by decide +kernel) ⟨Nat.le_of_ble_eq_true rfl, Nat.le_of_ble_eq_true rfl⟩) hK (wl_m hw) hA 0 rfl rfl rfl rfl hl.1 rfl (Nat.le_of_ble_eq_true rfl) dL_law_416 ⟨show cells + 0 ≤ 601024 by omega, show slots + 0 ≤ 7293033 by omega⟩ (fun r_2 M_2 H locs hp_2 hw => ?_)
    have hw := wl_mb hw
    obtain ⟨e9, hR2⟩ := ls_patient hR hp_1 hp_2
    refine lv_icmp_eq (tgt := 1184) hx hb dL_law_419 (by decide) (fun _ => ?_) (fun h9 => absurd e9 h9)
    exact W.widen (Nat.le_add_right _ _) (Nat.le_add_right _ _) (kk _ _ _ _ _ _ hR2 hw hl)
  · skip
    refine lv_iconst (v := bI true) hx hb dL_law_387 (by decide) ?_
    refine lv_goto (tgt := 392) hx hb dL_law_388 (by decide) ?_
    refine lx_I (w1 := []) (wd := wc ca ad) (S := S) (w2 := wO ca oa f ++ wq ca md M) (As := [.int (xs (i + 1)), .int (bI true)]) (rest := []) (kX5_patient l dC dI ca ad S (xs (i + 1)) true ) ⟨hx, hb, hml, hown, hts⟩ (cwV 2 hts (wa_gV wd_200 wd_201 wd_202 wd_1 wd_203) rfl rfl rfl (by decide +kernel) ⟨Nat.le_of_ble_eq_true rfl, Nat.le_of_ble_eq_true rfl⟩) hK (wl_x hw) hA 0 rfl rfl rfl rfl hl.1 rfl (Nat.le_of_ble_eq_true rfl) dL_law_392 ⟨show cells + 0 ≤ 601024 by omega, show slots + 0 ≤ 7293033 by omega⟩ (fun r_1 S_1 H locs hp_1 hw => ?_)
    have hw := wl_xb hw
    refine lv_aload_n hx hb dL_law_395 rfl (lv_at hl 2 rfl) ?_
    refine lv_aload_n hx hb dL_law_396 rfl (lv_at hl 4 rfl) ?_
    refine lv_iload hx hb dL_law_397 (lv_at hl 0 rfl) ?_
    refine lv_iconst (v := nI 1) hx hb dL_law_399 (by decide) ?_
    refine lv_iadd hx hb dL_law_400 ?_
    refine tp_i (nI_add i 1) ?_
    refine ws_ld hx hb hX hbl hbA hw (j := i + 1) (by omega) hL dL_law_401 ?_
    refine lv_aload_n hx hb dL_law_402 rfl (lv_at hl 4 rfl) ?_
    refine lv_iload hx hb dL_law_403 (lv_at hl 0 rfl) ?_
    refine lv_iconst (v := nI 2) hx hb dL_law_405 (by decide) ?_
    refine lv_iadd hx hb dL_law_406 ?_
    refine tp_i (nI_add i 2) ?_
    refine ws_ld hx hb hX hbl hbA hw (j := i + 2) (by omega) hL dL_law_407 ?_
    refine lv_if_eq (tgt := 415) hx hb dL_law_408 (by decide) (fun c8 => absurd c8 c9) (fun _ => ?_)
    refine lv_iconst (v := bI true) hx hb dL_law_411 (by decide) ?_
    refine lv_goto (tgt := 416) hx hb dL_law_412 (by decide) ?_
    refine lx_I (w1 := wc ca ad S_1 ++ wO ca oa f) (wd := wq ca md) (S := M) (w2 := []) (As := [.int (xs (i + 1)), .int (bI true)]) (rest := [.int r_1]) (kX6_patient l dC dI ca md M (xs (i + 1)) true ) ⟨hx, hb, hml, hown, hts⟩ (cwV 2 hts (wa_gV wd_683 wd_684 wd_685 wd_8 wd_686) rfl rfl rfl (by decide +kernel) ⟨Nat.le_of_ble_eq_true rfl, Nat.le_of_ble_eq_true rfl⟩) hK (wl_m hw) hA 0 rfl rfl rfl rfl hl.1 rfl (Nat.le_of_ble_eq_true rfl) dL_law_416 ⟨show cells + 0 ≤ 601024 by omega, show slots + 0 ≤ 7293033 by omega⟩ (fun r_2 M_2 H locs hp_2 hw => ?_)
    have hw := wl_mb hw
    obtain ⟨e9, hR2⟩ := ls_patient hR hp_1 hp_2
    refine lv_icmp_eq (tgt := 1184) hx hb dL_law_419 (by decide) (fun _ => ?_) (fun h9 => absurd e9 h9)
    exact W.widen (Nat.le_add_right _ _) (Nat.le_add_right _ _) (kk _ _ _ _ _ _ hR2 hw hl)

set_option maxHeartbeats 4000000 in
set_option maxRecDepth 100000 in
theorem lc_share {p : Program} {l : Launch} {e : Env} {s : State} {m : MethodId} {below : List Frame} {meth : Method} {c : Code} {dC : Nat → ClassId} {dI : Nat → Nat → Nat} {ca : Nat → ClassId} {ad md : Nat → Nat} {oa b L i cells slots : Nat} {xs : Nat → Int32} {S M : sSt} {f : Nat → Int64} {H : Heap} {locs : List Loc} {ls : Array Slot} {Q : State → Prop} (C0 : LC p l s m meth c dC dI ca b L xs) (hi : i + 7 ≤ L) (hR : RE S M) (hc : cells + 1 ≤ 601024) (hs : slots + 6 ≤ 7293033) (hw : wo_w (dC, dI) vwCl (lwA s) s.heap (wL ca ad md oa S M f) H locs) (hl : lv_has ls 8 (lwl b oa i ad md)) (kk : lw_N p l e s m below meth c dC dI ca ad md oa b i cells slots Q) : W p l e room_1 s m #[Value.ref b] below meth c H locs cells slots Q (F0 m 817 ls []) := by
  obtain ⟨hx, hb, hr, hml, hown, hts, hX, hbl, hlocks, hK, hZ, hL, htr⟩ := C0
  have hA : ∀ q : Nat, s.heap.size ≤ q → lwA s q := fun _ h => h
  have hbA : ¬ lwA s b := Nat.not_le.mpr hbl
  obtain ⟨nb, nr, hR⟩ := hR
  obtain ⟨hb6, hr2, hri, hmi, hRWs, hRWm⟩ := RR_h hR
  refine lv_aload_n hx hb dL_law_817 rfl (lv_at hl 3 rfl) ?_
  refine lv_aload_n hx hb dL_law_818 rfl (lv_at hl 4 rfl) ?_
  refine lv_iload hx hb dL_law_819 (lv_at hl 0 rfl) ?_
  refine lv_iconst (v := nI 1) hx hb dL_law_821 (by decide) ?_
  refine lv_iadd hx hb dL_law_822 ?_
  refine tp_i (nI_add i 1) ?_
  refine ws_ld hx hb hX hbl hbA hw (j := i + 1) (by omega) hL dL_law_823 ?_
  refine lv_aload_n hx hb dL_law_824 rfl (lv_at hl 4 rfl) ?_
  refine lv_iload hx hb dL_law_825 (lv_at hl 0 rfl) ?_
  refine lv_iconst (v := nI 2) hx hb dL_law_827 (by decide) ?_
  refine lv_iadd hx hb dL_law_828 ?_
  refine tp_i (nI_add i 2) ?_
  refine ws_ld hx hb hX hbl hbA hw (j := i + 2) (by omega) hL dL_law_829 ?_
  refine lv_aload_n hx hb dL_law_830 rfl (lv_at hl 4 rfl) ?_
  refine lv_iload hx hb dL_law_831 (lv_at hl 0 rfl) ?_
  refine lv_iconst (v := nI 3) hx hb dL_law_833 (by decide) ?_
  refine lv_iadd hx hb dL_law_834 ?_
  refine tp_i (nI_add i 3) ?_
  refine ws_ld hx hb hX hbl hbA hw (j := i + 3) (by omega) hL dL_law_835 ?_
  refine lv_aload_n hx hb dL_law_836 rfl (lv_at hl 1 rfl) ?_
  refine lh_I (w1 := []) (wd := wh ca ad oa) (S := (S, f)) (w2 := wq ca md M) (As := [.ref (ad 0), .int (xs (i + 1)), .int (xs (i + 2)), .int (xs (i + 3)), .ref oa]) (rest := []) (kL_share l htr dC dI ca ad oa S f (xs (i + 1)) (xs (i + 2)) (xs (i + 3)) nb nr hb6 hr2 hri) ⟨hx, hb, hml, hown, hts⟩ ⟨rfl, rfl, Nat.le_of_ble_eq_true rfl, Nat.le_of_ble_eq_true rfl⟩ wL_share wd_0 (by decide) (show (parseMethodDescriptor yL_share.desc).map (fun d => d.parameters.length) = some 5 from by decide +kernel) wd_497 wd_498 hK hZ (wl_h hw) hA hl.1 rfl (Nat.le_of_ble_eq_true rfl) dL_law_837 ⟨show cells + 1 ≤ 601024 by omega, show slots + 6 ≤ 7293033 by omega⟩ (fun r_1 X_1 H locs hp_1 hw => ?_)
  obtain ⟨S_1, f_1⟩ := X_1
  have hw := wl_hb hw
  refine lv_istore (lv' := [(5, .int r_1), (4, .int (nI i)), (3, .ref oa), (2, .ref (md 0)), (1, .ref (ad 0)), (0, .ref b)]) hx hb dL_law_840 hl (by decide) rfl (fun ls hl => ?_)
  refine lv_aload_n hx hb dL_law_842 rfl (lv_at hl 3 rfl) ?_
  refine lv_aload_n hx hb dL_law_843 rfl (lv_at hl 5 rfl) ?_
  refine lv_iload hx hb dL_law_844 (lv_at hl 1 rfl) ?_
  refine lv_iconst (v := nI 1) hx hb dL_law_846 (by decide) ?_
  refine lv_iadd hx hb dL_law_847 ?_
  refine tp_i (nI_add i 1) ?_
  refine ws_ld hx hb hX hbl hbA hw (j := i + 1) (by omega) hL dL_law_848 ?_
  refine lv_aload_n hx hb dL_law_849 rfl (lv_at hl 5 rfl) ?_
  refine lv_iload hx hb dL_law_850 (lv_at hl 1 rfl) ?_
  refine lv_iconst (v := nI 2) hx hb dL_law_852 (by decide) ?_
  refine lv_iadd hx hb dL_law_853 ?_
  refine tp_i (nI_add i 2) ?_
  refine ws_ld hx hb hX hbl hbA hw (j := i + 2) (by omega) hL dL_law_854 ?_
  refine lv_aload_n hx hb dL_law_855 rfl (lv_at hl 5 rfl) ?_
  refine lv_iload hx hb dL_law_856 (lv_at hl 1 rfl) ?_
  refine lv_iconst (v := nI 3) hx hb dL_law_858 (by decide) ?_
  refine lv_iadd hx hb dL_law_859 ?_
  refine tp_i (nI_add i 3) ?_
  refine ws_ld hx hb hX hbl hbA hw (j := i + 3) (by omega) hL dL_law_860 ?_
  refine lx_L (w1 := wc ca ad S_1 ++ wO ca oa f_1) (wd := wq ca md) (S := M) (w2 := []) (As := [.int (xs (i + 1)), .int (xs (i + 2)), .int (xs (i + 3))]) (rest := []) (kX6_share l dC dI ca md M (xs (i + 1)) (xs (i + 2)) (xs (i + 3)) nb nr hb6 hr2 hmi) ⟨hx, hb, hml, hown, hts⟩ (cwV 3 hts (wa_gV wd_744 wd_745 wd_746 wd_8 wd_747) rfl rfl rfl (by decide +kernel) ⟨Nat.le_of_ble_eq_true rfl, Nat.le_of_ble_eq_true rfl⟩) hK (wl_m hw) hA 0 rfl rfl rfl rfl hl.1 rfl (Nat.le_of_ble_eq_true rfl) dL_law_861 ⟨show cells + 1 + 0 ≤ 601024 by omega, show slots + 6 + 0 ≤ 7293033 by omega⟩ (fun r_2 M_2 H locs hp_2 hw => ?_)
  have hw := wl_mb hw
  refine lv_lstore (lv' := [(6, .long r_2), (5, .int r_1), (4, .int (nI i)), (3, .ref oa), (2, .ref (md 0)), (1, .ref (ad 0)), (0, .ref b)]) hx hb dL_law_864 hl (by decide) rfl (fun ls hl => ?_)
  refine lv_aload_n hx hb dL_law_866 rfl (lv_at hl 4 rfl) ?_
  refine lx_I (w1 := wc ca ad S_1 ++ wO ca oa f_1) (wd := wq ca md) (S := M_2) (w2 := []) (As := []) (rest := []) (kX6_thrown l dC dI ca md M_2  ) ⟨hx, hb, hml, hown, hts⟩ (cwV 0 hts (wa_gV wd_647 wd_648 wd_649 wd_8 wd_650) rfl rfl rfl (by decide +kernel) ⟨Nat.le_of_ble_eq_true rfl, Nat.le_of_ble_eq_true rfl⟩) hK (wl_m hw) hA 0 rfl rfl rfl rfl hl.1 rfl (Nat.le_of_ble_eq_true rfl) dL_law_867 ⟨show cells + 1 + 0 ≤ 601024 by omega, show slots + 6 + 0 ≤ 7293033 by omega⟩ (fun r_3 M_3 H locs hp_3 hw => ?_)
  have hw := wl_mb hw
  obtain ⟨e8, e7, hR2⟩ := ls_share hR hp_1 hp_2
  obtain ⟨e6, e5⟩ := hp_3
  rw [e5] at hw
  refine lv_iload hx hb dL_law_870 (lv_at hl 1 rfl) ?_
  refine lv_icmp_eq (tgt := 877) hx hb dL_law_872 (by decide) (fun _ => ?_) (fun h9 => absurd (e6.trans e8) h9)
  refine lv_iload hx hb dL_law_877 (lv_at hl 1 rfl) ?_
  refine lv_if_ne (tgt := 893) hx hb dL_law_879 (by decide) (fun _ => ?_) (fun c9 => ?_)
  · skip
    refine lv_goto (tgt := 1184) hx hb dL_law_893 (by decide) ?_
    exact kk _ _ _ _ _ _ hR2 hw (lv_sub hl [2, 3, 4, 5, 6] rfl)
  · skip
    refine lv_aload_n hx hb dL_law_882 rfl (lv_at hl 3 rfl) ?_
    refine lv_iconst (v := nI 0) hx hb dL_law_883 (by decide) ?_
    refine wo_lald hx hb hK hw 52 1 rfl rfl 0 rfl (by decide) (by decide) dL_law_884 ?_
    refine lv_lload hx hb dL_law_885 (lv_at hl 0 rfl) ?_
    refine lc_eq (tgt := 893) hx hb dL_law_887 dL_law_888 (by decide) (fun _ => ?_) (fun h9 => absurd (e7 (c9.trans nI_0.symm)) h9)
    refine lv_goto (tgt := 1184) hx hb dL_law_893 (by decide) ?_
    exact kk _ _ _ _ _ _ hR2 hw (lv_sub hl [2, 3, 4, 5, 6] rfl)
