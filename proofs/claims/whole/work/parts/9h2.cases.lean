set_option maxHeartbeats 4000000 in
set_option maxRecDepth 100000 in
theorem lc_bound {p : Program} {l : Launch} {e : Env} {s : State} {m : MethodId} {below : List Frame} {meth : Method} {c : Code} {dC : Nat → ClassId} {dI : Nat → Nat → Nat} {ca : Nat → ClassId} {ad md : Nat → Nat} {oa b L i cells slots : Nat} {xs : Nat → Int32} {S M : sSt} {f : Nat → Int64} {H : Heap} {locs : List Loc} {ls : Array Slot} {Q : State → Prop} (C0 : LC p l s m meth c dC dI ca b L xs) (hi : i + 7 ≤ L) (hR : RE S M) (hc : cells + 1 ≤ 601024) (hs : slots + 6 ≤ 7293033) (hw : wo_w (dC, dI) vwCl (lwA s) s.heap (wL ca ad md oa S M f) H locs) (hl : lv_has ls 8 (lwl b oa i ad md)) (kk : lw_N p l e s m below meth c dC dI ca ad md oa b i cells slots Q) : W p l e room_1 s m #[Value.ref b] below meth c H locs cells slots Q (F0 m 193 ls []) := by
  obtain ⟨hx, hb, hr, hml, hown, hts, hX, hbl, hlocks, hK, hZ, hL, htr⟩ := C0
  have hA : ∀ q : Nat, s.heap.size ≤ q → lwA s q := fun _ h => h
  have hbA : ¬ lwA s b := Nat.not_le.mpr hbl
  obtain ⟨nb, nr, hR⟩ := hR
  obtain ⟨hb6, hr2, hri, hmi, hRWs, hRWm⟩ := RR_h hR
  refine lv_aload_n hx hb dL_law_193 rfl (lv_at hl 3 rfl) ?_
  refine lv_aload_n hx hb dL_law_194 rfl (lv_at hl 4 rfl) ?_
  refine lv_iload hx hb dL_law_195 (lv_at hl 0 rfl) ?_
  refine lv_iconst (v := nI 1) hx hb dL_law_197 (by decide) ?_
  refine lv_iadd hx hb dL_law_198 ?_
  refine tp_i (nI_add i 1) ?_
  refine ws_ld hx hb hX hbl hbA hw (j := i + 1) (by omega) hL dL_law_199 ?_
  refine lv_i2l hx hb dL_law_200 rfl ?_
  refine lv_bipush (v := nI 32) hx hb dL_law_201 (by decide) ?_
  refine lv_lshl hx hb dL_law_203 rfl ?_
  refine lv_aload_n hx hb dL_law_204 rfl (lv_at hl 4 rfl) ?_
  refine lv_iload hx hb dL_law_205 (lv_at hl 0 rfl) ?_
  refine lv_iconst (v := nI 2) hx hb dL_law_207 (by decide) ?_
  refine lv_iadd hx hb dL_law_208 ?_
  refine tp_i (nI_add i 2) ?_
  refine ws_ld hx hb hX hbl hbA hw (j := i + 2) (by omega) hL dL_law_209 ?_
  refine lv_i2l hx hb dL_law_210 rfl ?_
  refine lv_ldc2 hx hb hown (hts _ wd_781) dL_law_211 ?_
  refine lv_land hx hb dL_law_214 ?_
  refine lv_lor hx hb dL_law_215 ?_
  refine tp_l (y := lj (xs (i + 1)) (xs (i + 2))) rfl ?_
  refine lv_aload_n hx hb dL_law_216 rfl (lv_at hl 4 rfl) ?_
  refine lv_iload hx hb dL_law_217 (lv_at hl 0 rfl) ?_
  refine lv_iconst (v := nI 3) hx hb dL_law_219 (by decide) ?_
  refine lv_iadd hx hb dL_law_220 ?_
  refine tp_i (nI_add i 3) ?_
  refine ws_ld hx hb hX hbl hbA hw (j := i + 3) (by omega) hL dL_law_221 ?_
  refine lv_i2l hx hb dL_law_222 rfl ?_
  refine lv_bipush (v := nI 32) hx hb dL_law_223 (by decide) ?_
  refine lv_lshl hx hb dL_law_225 rfl ?_
  refine lv_aload_n hx hb dL_law_226 rfl (lv_at hl 4 rfl) ?_
  refine lv_iload hx hb dL_law_227 (lv_at hl 0 rfl) ?_
  refine lv_iconst (v := nI 4) hx hb dL_law_229 (by decide) ?_
  refine lv_iadd hx hb dL_law_230 ?_
  refine tp_i (nI_add i 4) ?_
  refine ws_ld hx hb hX hbl hbA hw (j := i + 4) (by omega) hL dL_law_231 ?_
  refine lv_i2l hx hb dL_law_232 rfl ?_
  refine lv_ldc2 hx hb hown (hts _ wd_781) dL_law_233 ?_
  refine lv_land hx hb dL_law_236 ?_
  refine lv_lor hx hb dL_law_237 ?_
  refine tp_l (y := lj (xs (i + 3)) (xs (i + 4))) rfl ?_
  refine lv_aload_n hx hb dL_law_238 rfl (lv_at hl 4 rfl) ?_
  refine lv_iload hx hb dL_law_239 (lv_at hl 0 rfl) ?_
  refine lv_iconst (v := nI 5) hx hb dL_law_241 (by decide) ?_
  refine lv_iadd hx hb dL_law_242 ?_
  refine tp_i (nI_add i 5) ?_
  refine ws_ld hx hb hX hbl hbA hw (j := i + 5) (by omega) hL dL_law_243 ?_
  refine lv_i2l hx hb dL_law_244 rfl ?_
  refine lv_bipush (v := nI 32) hx hb dL_law_245 (by decide) ?_
  refine lv_lshl hx hb dL_law_247 rfl ?_
  refine lv_aload_n hx hb dL_law_248 rfl (lv_at hl 4 rfl) ?_
  refine lv_iload hx hb dL_law_249 (lv_at hl 0 rfl) ?_
  refine lv_bipush (v := nI 6) hx hb dL_law_251 (by decide) ?_
  refine lv_iadd hx hb dL_law_253 ?_
  refine tp_i (nI_add i 6) ?_
  refine ws_ld hx hb hX hbl hbA hw (j := i + 6) (by omega) hL dL_law_254 ?_
  refine lv_i2l hx hb dL_law_255 rfl ?_
  refine lv_ldc2 hx hb hown (hts _ wd_781) dL_law_256 ?_
  refine lv_land hx hb dL_law_259 ?_
  refine lv_lor hx hb dL_law_260 ?_
  refine tp_l (y := lj (xs (i + 5)) (xs (i + 6))) rfl ?_
  refine lv_aload_n hx hb dL_law_261 rfl (lv_at hl 1 rfl) ?_
  refine lh_I (w1 := []) (wd := wh ca ad oa) (S := (S, f)) (w2 := wq ca md M) (As := [.ref (ad 0), .long (lj (xs (i + 1)) (xs (i + 2))), .long (lj (xs (i + 3)) (xs (i + 4))), .long (lj (xs (i + 5)) (xs (i + 6))), .ref oa]) (rest := []) (kL_bound l htr dC dI ca ad oa S f (lj (xs (i + 1)) (xs (i + 2))) (lj (xs (i + 3)) (xs (i + 4))) (lj (xs (i + 5)) (xs (i + 6))) nb nr hb6 hr2 hri) ⟨hx, hb, hml, hown, hts⟩ ⟨rfl, rfl, Nat.le_of_ble_eq_true rfl, Nat.le_of_ble_eq_true rfl⟩ wL_bound wd_0 (by decide) (show (parseMethodDescriptor yL_bound.desc).map (fun d => d.parameters.length) = some 5 from by decide +kernel) wd_367 wd_368 hK hZ (wl_h hw) hA hl.1 rfl (Nat.le_of_ble_eq_true rfl) dL_law_262 ⟨show cells + 1 ≤ 601024 by omega, show slots + 6 ≤ 7293033 by omega⟩ (fun r_1 X_1 H locs hp_1 hw => ?_)
  obtain ⟨S_1, f_1⟩ := X_1
  have hw := wl_hb hw
  refine lv_istore (lv' := [(5, .int r_1), (4, .int (nI i)), (3, .ref oa), (2, .ref (md 0)), (1, .ref (ad 0)), (0, .ref b)]) hx hb dL_law_265 hl (by decide) rfl (fun ls hl => ?_)
  refine lv_aload_n hx hb dL_law_267 rfl (lv_at hl 3 rfl) ?_
  refine lv_aload_n hx hb dL_law_268 rfl (lv_at hl 5 rfl) ?_
  refine lv_iload hx hb dL_law_269 (lv_at hl 1 rfl) ?_
  refine lv_iconst (v := nI 1) hx hb dL_law_271 (by decide) ?_
  refine lv_iadd hx hb dL_law_272 ?_
  refine tp_i (nI_add i 1) ?_
  refine ws_ld hx hb hX hbl hbA hw (j := i + 1) (by omega) hL dL_law_273 ?_
  refine lv_i2l hx hb dL_law_274 rfl ?_
  refine lv_bipush (v := nI 32) hx hb dL_law_275 (by decide) ?_
  refine lv_lshl hx hb dL_law_277 rfl ?_
  refine lv_aload_n hx hb dL_law_278 rfl (lv_at hl 5 rfl) ?_
  refine lv_iload hx hb dL_law_279 (lv_at hl 1 rfl) ?_
  refine lv_iconst (v := nI 2) hx hb dL_law_281 (by decide) ?_
  refine lv_iadd hx hb dL_law_282 ?_
  refine tp_i (nI_add i 2) ?_
  refine ws_ld hx hb hX hbl hbA hw (j := i + 2) (by omega) hL dL_law_283 ?_
  refine lv_i2l hx hb dL_law_284 rfl ?_
  refine lv_ldc2 hx hb hown (hts _ wd_781) dL_law_285 ?_
  refine lv_land hx hb dL_law_288 ?_
  refine lv_lor hx hb dL_law_289 ?_
  refine tp_l (y := lj (xs (i + 1)) (xs (i + 2))) rfl ?_
  refine lv_aload_n hx hb dL_law_290 rfl (lv_at hl 5 rfl) ?_
  refine lv_iload hx hb dL_law_291 (lv_at hl 1 rfl) ?_
  refine lv_iconst (v := nI 3) hx hb dL_law_293 (by decide) ?_
  refine lv_iadd hx hb dL_law_294 ?_
  refine tp_i (nI_add i 3) ?_
  refine ws_ld hx hb hX hbl hbA hw (j := i + 3) (by omega) hL dL_law_295 ?_
  refine lv_i2l hx hb dL_law_296 rfl ?_
  refine lv_bipush (v := nI 32) hx hb dL_law_297 (by decide) ?_
  refine lv_lshl hx hb dL_law_299 rfl ?_
  refine lv_aload_n hx hb dL_law_300 rfl (lv_at hl 5 rfl) ?_
  refine lv_iload hx hb dL_law_301 (lv_at hl 1 rfl) ?_
  refine lv_iconst (v := nI 4) hx hb dL_law_303 (by decide) ?_
  refine lv_iadd hx hb dL_law_304 ?_
  refine tp_i (nI_add i 4) ?_
  refine ws_ld hx hb hX hbl hbA hw (j := i + 4) (by omega) hL dL_law_305 ?_
  refine lv_i2l hx hb dL_law_306 rfl ?_
  refine lv_ldc2 hx hb hown (hts _ wd_781) dL_law_307 ?_
  refine lv_land hx hb dL_law_310 ?_
  refine lv_lor hx hb dL_law_311 ?_
  refine tp_l (y := lj (xs (i + 3)) (xs (i + 4))) rfl ?_
  refine lv_aload_n hx hb dL_law_312 rfl (lv_at hl 5 rfl) ?_
  refine lv_iload hx hb dL_law_313 (lv_at hl 1 rfl) ?_
  refine lv_iconst (v := nI 5) hx hb dL_law_315 (by decide) ?_
  refine lv_iadd hx hb dL_law_316 ?_
  refine tp_i (nI_add i 5) ?_
  refine ws_ld hx hb hX hbl hbA hw (j := i + 5) (by omega) hL dL_law_317 ?_
  refine lv_i2l hx hb dL_law_318 rfl ?_
  refine lv_bipush (v := nI 32) hx hb dL_law_319 (by decide) ?_
  refine lv_lshl hx hb dL_law_321 rfl ?_
  refine lv_aload_n hx hb dL_law_322 rfl (lv_at hl 5 rfl) ?_
  refine lv_iload hx hb dL_law_323 (lv_at hl 1 rfl) ?_
  refine lv_bipush (v := nI 6) hx hb dL_law_325 (by decide) ?_
  refine lv_iadd hx hb dL_law_327 ?_
  refine tp_i (nI_add i 6) ?_
  refine ws_ld hx hb hX hbl hbA hw (j := i + 6) (by omega) hL dL_law_328 ?_
  refine lv_i2l hx hb dL_law_329 rfl ?_
  refine lv_ldc2 hx hb hown (hts _ wd_781) dL_law_330 ?_
  refine lv_land hx hb dL_law_333 ?_
  refine lv_lor hx hb dL_law_334 ?_
  refine tp_l (y := lj (xs (i + 5)) (xs (i + 6))) rfl ?_
  refine lx_I (w1 := wc ca ad S_1 ++ wO ca oa f_1) (wd := wq ca md) (S := M) (w2 := []) (As := [.long (lj (xs (i + 1)) (xs (i + 2))), .long (lj (xs (i + 3)) (xs (i + 4))), .long (lj (xs (i + 5)) (xs (i + 6)))]) (rest := []) (kX6_bound l dC dI ca md M (lj (xs (i + 1)) (xs (i + 2))) (lj (xs (i + 3)) (xs (i + 4))) (lj (xs (i + 5)) (xs (i + 6))) nb nr hb6 hr2 hmi (ls_boundH hR _ _ _)) ⟨hx, hb, hml, hown, hts⟩ (cwV 3 hts (wa_gV wd_664 wd_665 wd_666 wd_8 wd_667) rfl rfl rfl (by decide +kernel) ⟨Nat.le_of_ble_eq_true rfl, Nat.le_of_ble_eq_true rfl⟩) hK (wl_m hw) hA 0 rfl rfl rfl rfl hl.1 rfl (Nat.le_of_ble_eq_true rfl) dL_law_335 ⟨show cells + 1 + 0 ≤ 601024 by omega, show slots + 6 + 0 ≤ 7293033 by omega⟩ (fun r_2 M_2 H locs hp_2 hw => ?_)
  have hw := wl_mb hw
  refine lv_istore (lv' := [(6, .int r_2), (5, .int r_1), (4, .int (nI i)), (3, .ref oa), (2, .ref (md 0)), (1, .ref (ad 0)), (0, .ref b)]) hx hb dL_law_338 hl (by decide) rfl (fun ls hl => ?_)
  refine lv_aload_n hx hb dL_law_340 rfl (lv_at hl 4 rfl) ?_
  refine lx_I (w1 := wc ca ad S_1 ++ wO ca oa f_1) (wd := wq ca md) (S := M_2) (w2 := []) (As := []) (rest := []) (kX6_thrown l dC dI ca md M_2  ) ⟨hx, hb, hml, hown, hts⟩ (cwV 0 hts (wa_gV wd_647 wd_648 wd_649 wd_8 wd_650) rfl rfl rfl (by decide +kernel) ⟨Nat.le_of_ble_eq_true rfl, Nat.le_of_ble_eq_true rfl⟩) hK (wl_m hw) hA 0 rfl rfl rfl rfl hl.1 rfl (Nat.le_of_ble_eq_true rfl) dL_law_341 ⟨show cells + 1 + 0 ≤ 601024 by omega, show slots + 6 + 0 ≤ 7293033 by omega⟩ (fun r_3 M_3 H locs hp_3 hw => ?_)
  have hw := wl_mb hw
  obtain ⟨e8, e7, hR2⟩ := ls_bound hR hp_1 hp_2
  obtain ⟨e6, e5⟩ := hp_3
  rw [e5] at hw
  refine lv_iload hx hb dL_law_344 (lv_at hl 1 rfl) ?_
  refine lv_icmp_eq (tgt := 351) hx hb dL_law_346 (by decide) (fun _ => ?_) (fun h9 => absurd (e6.trans e8) h9)
  refine lv_iload hx hb dL_law_351 (lv_at hl 1 rfl) ?_
  refine lv_if_ne (tgt := 368) hx hb dL_law_353 (by decide) (fun _ => ?_) (fun c9 => ?_)
  · skip
    refine lv_goto (tgt := 1184) hx hb dL_law_368 (by decide) ?_
    exact kk _ _ _ _ _ _ hR2 hw (lv_sub hl [2, 3, 4, 5, 6] rfl)
  · skip
    refine lv_aload_n hx hb dL_law_356 rfl (lv_at hl 3 rfl) ?_
    refine lv_iconst (v := nI 0) hx hb dL_law_357 (by decide) ?_
    refine wo_lald hx hb hK hw 52 1 rfl rfl 0 rfl (by decide) (by decide) dL_law_358 ?_
    refine lv_iload hx hb dL_law_359 (lv_at hl 0 rfl) ?_
    refine lv_i2l hx hb dL_law_361 rfl ?_
    refine lc_eq (tgt := 368) hx hb dL_law_362 dL_law_363 (by decide) (fun _ => ?_) (fun h9 => absurd (e7 (c9.trans nI_0.symm)) h9)
    refine lv_goto (tgt := 1184) hx hb dL_law_368 (by decide) ?_
    exact kk _ _ _ _ _ _ hR2 hw (lv_sub hl [2, 3, 4, 5, 6] rfl)

set_option maxHeartbeats 4000000 in
set_option maxRecDepth 100000 in
theorem lc_take {p : Program} {l : Launch} {e : Env} {s : State} {m : MethodId} {below : List Frame} {meth : Method} {c : Code} {dC : Nat → ClassId} {dI : Nat → Nat → Nat} {ca : Nat → ClassId} {ad md : Nat → Nat} {oa b L i cells slots : Nat} {xs : Nat → Int32} {S M : sSt} {f : Nat → Int64} {H : Heap} {locs : List Loc} {ls : Array Slot} {Q : State → Prop} (C0 : LC p l s m meth c dC dI ca b L xs) (hi : i + 7 ≤ L) (hR : RE S M) (hc : cells + 1 ≤ 601024) (hs : slots + 6 ≤ 7293033) (hw : wo_w (dC, dI) vwCl (lwA s) s.heap (wL ca ad md oa S M f) H locs) (hl : lv_has ls 8 (lwl b oa i ad md)) (kk : lw_N p l e s m below meth c dC dI ca ad md oa b i cells slots Q) : W p l e room_1 s m #[Value.ref b] below meth c H locs cells slots Q (F0 m 424 ls []) := by
  obtain ⟨hx, hb, hr, hml, hown, hts, hX, hbl, hlocks, hK, hZ, hL, htr⟩ := C0
  have hA : ∀ q : Nat, s.heap.size ≤ q → lwA s q := fun _ h => h
  have hbA : ¬ lwA s b := Nat.not_le.mpr hbl
  obtain ⟨nb, nr, hR⟩ := hR
  obtain ⟨hb6, hr2, hri, hmi, hRWs, hRWm⟩ := RR_h hR
  refine lv_aload_n hx hb dL_law_424 rfl (lv_at hl 3 rfl) ?_
  refine lv_aload_n hx hb dL_law_425 rfl (lv_at hl 4 rfl) ?_
  refine lv_iload hx hb dL_law_426 (lv_at hl 0 rfl) ?_
  refine lv_iconst (v := nI 1) hx hb dL_law_428 (by decide) ?_
  refine lv_iadd hx hb dL_law_429 ?_
  refine tp_i (nI_add i 1) ?_
  refine ws_ld hx hb hX hbl hbA hw (j := i + 1) (by omega) hL dL_law_430 ?_
  refine lv_aload_n hx hb dL_law_431 rfl (lv_at hl 4 rfl) ?_
  refine lv_iload hx hb dL_law_432 (lv_at hl 0 rfl) ?_
  refine lv_iconst (v := nI 2) hx hb dL_law_434 (by decide) ?_
  refine lv_iadd hx hb dL_law_435 ?_
  refine tp_i (nI_add i 2) ?_
  refine ws_ld hx hb hX hbl hbA hw (j := i + 2) (by omega) hL dL_law_436 ?_
  refine lv_aload_n hx hb dL_law_437 rfl (lv_at hl 4 rfl) ?_
  refine lv_iload hx hb dL_law_438 (lv_at hl 0 rfl) ?_
  refine lv_iconst (v := nI 3) hx hb dL_law_440 (by decide) ?_
  refine lv_iadd hx hb dL_law_441 ?_
  refine tp_i (nI_add i 3) ?_
  refine ws_ld hx hb hX hbl hbA hw (j := i + 3) (by omega) hL dL_law_442 ?_
  refine lv_i2l hx hb dL_law_443 rfl ?_
  refine lv_bipush (v := nI 32) hx hb dL_law_444 (by decide) ?_
  refine lv_lshl hx hb dL_law_446 rfl ?_
  refine lv_aload_n hx hb dL_law_447 rfl (lv_at hl 4 rfl) ?_
  refine lv_iload hx hb dL_law_448 (lv_at hl 0 rfl) ?_
  refine lv_iconst (v := nI 4) hx hb dL_law_450 (by decide) ?_
  refine lv_iadd hx hb dL_law_451 ?_
  refine tp_i (nI_add i 4) ?_
  refine ws_ld hx hb hX hbl hbA hw (j := i + 4) (by omega) hL dL_law_452 ?_
  refine lv_i2l hx hb dL_law_453 rfl ?_
  refine lv_ldc2 hx hb hown (hts _ wd_781) dL_law_454 ?_
  refine lv_land hx hb dL_law_457 ?_
  refine lv_lor hx hb dL_law_458 ?_
  refine tp_l (y := lj (xs (i + 3)) (xs (i + 4))) rfl ?_
  refine lx_I (w1 := []) (wd := wc ca ad) (S := S) (w2 := wO ca oa f ++ wq ca md M) (As := [.int (xs (i + 1)), .int (xs (i + 2)), .long (lj (xs (i + 3)) (xs (i + 4)))]) (rest := []) (kX5_take l dC dI ca ad S (xs (i + 1)) (xs (i + 2)) (lj (xs (i + 3)) (xs (i + 4))) nb nr hb6 hr2 hri) ⟨hx, hb, hml, hown, hts⟩ (cwV 3 hts (wa_gV wd_204 wd_205 wd_206 wd_1 wd_207) rfl rfl rfl (by decide +kernel) ⟨Nat.le_of_ble_eq_true rfl, Nat.le_of_ble_eq_true rfl⟩) hK (wl_x hw) hA 0 rfl rfl rfl rfl hl.1 rfl (Nat.le_of_ble_eq_true rfl) dL_law_459 ⟨show cells + 0 ≤ 601024 by omega, show slots + 0 ≤ 7293033 by omega⟩ (fun r_1 S_1 H locs hp_1 hw => ?_)
  have hw := wl_xb hw
  refine lv_aload_n hx hb dL_law_462 rfl (lv_at hl 2 rfl) ?_
  refine lv_aload_n hx hb dL_law_463 rfl (lv_at hl 4 rfl) ?_
  refine lv_iload hx hb dL_law_464 (lv_at hl 0 rfl) ?_
  refine lv_iconst (v := nI 1) hx hb dL_law_466 (by decide) ?_
  refine lv_iadd hx hb dL_law_467 ?_
  refine tp_i (nI_add i 1) ?_
  refine ws_ld hx hb hX hbl hbA hw (j := i + 1) (by omega) hL dL_law_468 ?_
  refine lv_aload_n hx hb dL_law_469 rfl (lv_at hl 4 rfl) ?_
  refine lv_iload hx hb dL_law_470 (lv_at hl 0 rfl) ?_
  refine lv_iconst (v := nI 2) hx hb dL_law_472 (by decide) ?_
  refine lv_iadd hx hb dL_law_473 ?_
  refine tp_i (nI_add i 2) ?_
  refine ws_ld hx hb hX hbl hbA hw (j := i + 2) (by omega) hL dL_law_474 ?_
  refine lv_aload_n hx hb dL_law_475 rfl (lv_at hl 4 rfl) ?_
  refine lv_iload hx hb dL_law_476 (lv_at hl 0 rfl) ?_
  refine lv_iconst (v := nI 3) hx hb dL_law_478 (by decide) ?_
  refine lv_iadd hx hb dL_law_479 ?_
  refine tp_i (nI_add i 3) ?_
  refine ws_ld hx hb hX hbl hbA hw (j := i + 3) (by omega) hL dL_law_480 ?_
  refine lv_i2l hx hb dL_law_481 rfl ?_
  refine lv_bipush (v := nI 32) hx hb dL_law_482 (by decide) ?_
  refine lv_lshl hx hb dL_law_484 rfl ?_
  refine lv_aload_n hx hb dL_law_485 rfl (lv_at hl 4 rfl) ?_
  refine lv_iload hx hb dL_law_486 (lv_at hl 0 rfl) ?_
  refine lv_iconst (v := nI 4) hx hb dL_law_488 (by decide) ?_
  refine lv_iadd hx hb dL_law_489 ?_
  refine tp_i (nI_add i 4) ?_
  refine ws_ld hx hb hX hbl hbA hw (j := i + 4) (by omega) hL dL_law_490 ?_
  refine lv_i2l hx hb dL_law_491 rfl ?_
  refine lv_ldc2 hx hb hown (hts _ wd_781) dL_law_492 ?_
  refine lv_land hx hb dL_law_495 ?_
  refine lv_lor hx hb dL_law_496 ?_
  refine tp_l (y := lj (xs (i + 3)) (xs (i + 4))) rfl ?_
  refine lx_I (w1 := wc ca ad S_1 ++ wO ca oa f) (wd := wq ca md) (S := M) (w2 := []) (As := [.int (xs (i + 1)), .int (xs (i + 2)), .long (lj (xs (i + 3)) (xs (i + 4)))]) (rest := [.int r_1]) (kX6_take l dC dI ca md M (xs (i + 1)) (xs (i + 2)) (lj (xs (i + 3)) (xs (i + 4))) nb nr hb6 hr2 hmi) ⟨hx, hb, hml, hown, hts⟩ (cwV 3 hts (wa_gV wd_687 wd_688 wd_689 wd_8 wd_690) rfl rfl rfl (by decide +kernel) ⟨Nat.le_of_ble_eq_true rfl, Nat.le_of_ble_eq_true rfl⟩) hK (wl_m hw) hA 0 rfl rfl rfl rfl hl.1 rfl (Nat.le_of_ble_eq_true rfl) dL_law_497 ⟨show cells + 0 ≤ 601024 by omega, show slots + 0 ≤ 7293033 by omega⟩ (fun r_2 M_2 H locs hp_2 hw => ?_)
  have hw := wl_mb hw
  obtain ⟨e9, hR2⟩ := ls_take hR hp_1 hp_2
  refine lv_icmp_eq (tgt := 1184) hx hb dL_law_500 (by decide) (fun _ => ?_) (fun h9 => absurd e9 h9)
  exact W.widen (Nat.le_add_right _ _) (Nat.le_add_right _ _) (kk _ _ _ _ _ _ hR2 hw hl)

set_option maxHeartbeats 4000000 in
set_option maxRecDepth 100000 in
theorem lc_lend {p : Program} {l : Launch} {e : Env} {s : State} {m : MethodId} {below : List Frame} {meth : Method} {c : Code} {dC : Nat → ClassId} {dI : Nat → Nat → Nat} {ca : Nat → ClassId} {ad md : Nat → Nat} {oa b L i cells slots : Nat} {xs : Nat → Int32} {S M : sSt} {f : Nat → Int64} {H : Heap} {locs : List Loc} {ls : Array Slot} {Q : State → Prop} (C0 : LC p l s m meth c dC dI ca b L xs) (hi : i + 7 ≤ L) (hR : RE S M) (hc : cells + 1 ≤ 601024) (hs : slots + 6 ≤ 7293033) (hw : wo_w (dC, dI) vwCl (lwA s) s.heap (wL ca ad md oa S M f) H locs) (hl : lv_has ls 8 (lwl b oa i ad md)) (kk : lw_N p l e s m below meth c dC dI ca ad md oa b i cells slots Q) : W p l e room_1 s m #[Value.ref b] below meth c H locs cells slots Q (F0 m 505 ls []) := by
  obtain ⟨hx, hb, hr, hml, hown, hts, hX, hbl, hlocks, hK, hZ, hL, htr⟩ := C0
  have hA : ∀ q : Nat, s.heap.size ≤ q → lwA s q := fun _ h => h
  have hbA : ¬ lwA s b := Nat.not_le.mpr hbl
  obtain ⟨nb, nr, hR⟩ := hR
  obtain ⟨hb6, hr2, hri, hmi, hRWs, hRWm⟩ := RR_h hR
  refine lv_aload_n hx hb dL_law_505 rfl (lv_at hl 3 rfl) ?_
  refine lv_aload_n hx hb dL_law_506 rfl (lv_at hl 4 rfl) ?_
  refine lv_iload hx hb dL_law_507 (lv_at hl 0 rfl) ?_
  refine lv_iconst (v := nI 1) hx hb dL_law_509 (by decide) ?_
  refine lv_iadd hx hb dL_law_510 ?_
  refine tp_i (nI_add i 1) ?_
  refine ws_ld hx hb hX hbl hbA hw (j := i + 1) (by omega) hL dL_law_511 ?_
  refine lv_aload_n hx hb dL_law_512 rfl (lv_at hl 4 rfl) ?_
  refine lv_iload hx hb dL_law_513 (lv_at hl 0 rfl) ?_
  refine lv_iconst (v := nI 2) hx hb dL_law_515 (by decide) ?_
  refine lv_iadd hx hb dL_law_516 ?_
  refine tp_i (nI_add i 2) ?_
  refine ws_ld hx hb hX hbl hbA hw (j := i + 2) (by omega) hL dL_law_517 ?_
  refine lv_aload_n hx hb dL_law_518 rfl (lv_at hl 4 rfl) ?_
  refine lv_iload hx hb dL_law_519 (lv_at hl 0 rfl) ?_
  refine lv_iconst (v := nI 3) hx hb dL_law_521 (by decide) ?_
  refine lv_iadd hx hb dL_law_522 ?_
  refine tp_i (nI_add i 3) ?_
  refine ws_ld hx hb hX hbl hbA hw (j := i + 3) (by omega) hL dL_law_523 ?_
  refine lv_aload_n hx hb dL_law_524 rfl (lv_at hl 4 rfl) ?_
  refine lv_iload hx hb dL_law_525 (lv_at hl 0 rfl) ?_
  refine lv_iconst (v := nI 4) hx hb dL_law_527 (by decide) ?_
  refine lv_iadd hx hb dL_law_528 ?_
  refine tp_i (nI_add i 4) ?_
  refine ws_ld hx hb hX hbl hbA hw (j := i + 4) (by omega) hL dL_law_529 ?_
  refine lv_aload_n hx hb dL_law_530 rfl (lv_at hl 4 rfl) ?_
  refine lv_iload hx hb dL_law_531 (lv_at hl 0 rfl) ?_
  refine lv_iconst (v := nI 5) hx hb dL_law_533 (by decide) ?_
  refine lv_iadd hx hb dL_law_534 ?_
  refine tp_i (nI_add i 5) ?_
  refine ws_ld hx hb hX hbl hbA hw (j := i + 5) (by omega) hL dL_law_535 ?_
  refine lv_i2l hx hb dL_law_536 rfl ?_
  refine lv_bipush (v := nI 32) hx hb dL_law_537 (by decide) ?_
  refine lv_lshl hx hb dL_law_539 rfl ?_
  refine lv_aload_n hx hb dL_law_540 rfl (lv_at hl 4 rfl) ?_
  refine lv_iload hx hb dL_law_541 (lv_at hl 0 rfl) ?_
  refine lv_bipush (v := nI 6) hx hb dL_law_543 (by decide) ?_
  refine lv_iadd hx hb dL_law_545 ?_
  refine tp_i (nI_add i 6) ?_
  refine ws_ld hx hb hX hbl hbA hw (j := i + 6) (by omega) hL dL_law_546 ?_
  refine lv_i2l hx hb dL_law_547 rfl ?_
  refine lv_ldc2 hx hb hown (hts _ wd_781) dL_law_548 ?_
  refine lv_land hx hb dL_law_551 ?_
  refine lv_lor hx hb dL_law_552 ?_
  refine tp_l (y := lj (xs (i + 5)) (xs (i + 6))) rfl ?_
  refine lx_I (w1 := []) (wd := wc ca ad) (S := S) (w2 := wO ca oa f ++ wq ca md M) (As := [.int (xs (i + 1)), .int (xs (i + 2)), .int (xs (i + 3)), .int (xs (i + 4)), .long (lj (xs (i + 5)) (xs (i + 6)))]) (rest := []) (kX5_lend l dC dI ca ad S (xs (i + 1)) (xs (i + 2)) (xs (i + 3)) (xs (i + 4)) (lj (xs (i + 5)) (xs (i + 6))) nb nr hb6 hr2 hri) ⟨hx, hb, hml, hown, hts⟩ (cwV 5 hts (wa_gV wd_233 wd_234 wd_235 wd_1 wd_236) rfl rfl rfl (by decide +kernel) ⟨Nat.le_of_ble_eq_true rfl, Nat.le_of_ble_eq_true rfl⟩) hK (wl_x hw) hA 0 rfl rfl rfl rfl hl.1 rfl (Nat.le_of_ble_eq_true rfl) dL_law_553 ⟨show cells + 0 ≤ 601024 by omega, show slots + 0 ≤ 7293033 by omega⟩ (fun r_1 S_1 H locs hp_1 hw => ?_)
  have hw := wl_xb hw
  refine lv_aload_n hx hb dL_law_556 rfl (lv_at hl 2 rfl) ?_
  refine lv_aload_n hx hb dL_law_557 rfl (lv_at hl 4 rfl) ?_
  refine lv_iload hx hb dL_law_558 (lv_at hl 0 rfl) ?_
  refine lv_iconst (v := nI 1) hx hb dL_law_560 (by decide) ?_
  refine lv_iadd hx hb dL_law_561 ?_
  refine tp_i (nI_add i 1) ?_
  refine ws_ld hx hb hX hbl hbA hw (j := i + 1) (by omega) hL dL_law_562 ?_
  refine lv_aload_n hx hb dL_law_563 rfl (lv_at hl 4 rfl) ?_
  refine lv_iload hx hb dL_law_564 (lv_at hl 0 rfl) ?_
  refine lv_iconst (v := nI 2) hx hb dL_law_566 (by decide) ?_
  refine lv_iadd hx hb dL_law_567 ?_
  refine tp_i (nI_add i 2) ?_
  refine ws_ld hx hb hX hbl hbA hw (j := i + 2) (by omega) hL dL_law_568 ?_
  refine lv_aload_n hx hb dL_law_569 rfl (lv_at hl 4 rfl) ?_
  refine lv_iload hx hb dL_law_570 (lv_at hl 0 rfl) ?_
  refine lv_iconst (v := nI 3) hx hb dL_law_572 (by decide) ?_
  refine lv_iadd hx hb dL_law_573 ?_
  refine tp_i (nI_add i 3) ?_
  refine ws_ld hx hb hX hbl hbA hw (j := i + 3) (by omega) hL dL_law_574 ?_
  refine lv_aload_n hx hb dL_law_575 rfl (lv_at hl 4 rfl) ?_
  refine lv_iload hx hb dL_law_576 (lv_at hl 0 rfl) ?_
  refine lv_iconst (v := nI 4) hx hb dL_law_578 (by decide) ?_
  refine lv_iadd hx hb dL_law_579 ?_
  refine tp_i (nI_add i 4) ?_
  refine ws_ld hx hb hX hbl hbA hw (j := i + 4) (by omega) hL dL_law_580 ?_
  refine lv_aload_n hx hb dL_law_581 rfl (lv_at hl 4 rfl) ?_
  refine lv_iload hx hb dL_law_582 (lv_at hl 0 rfl) ?_
  refine lv_iconst (v := nI 5) hx hb dL_law_584 (by decide) ?_
  refine lv_iadd hx hb dL_law_585 ?_
  refine tp_i (nI_add i 5) ?_
  refine ws_ld hx hb hX hbl hbA hw (j := i + 5) (by omega) hL dL_law_586 ?_
  refine lv_i2l hx hb dL_law_587 rfl ?_
  refine lv_bipush (v := nI 32) hx hb dL_law_588 (by decide) ?_
  refine lv_lshl hx hb dL_law_590 rfl ?_
  refine lv_aload_n hx hb dL_law_591 rfl (lv_at hl 4 rfl) ?_
  refine lv_iload hx hb dL_law_592 (lv_at hl 0 rfl) ?_
  refine lv_bipush (v := nI 6) hx hb dL_law_594 (by decide) ?_
  refine lv_iadd hx hb dL_law_596 ?_
  refine tp_i (nI_add i 6) ?_
  refine ws_ld hx hb hX hbl hbA hw (j := i + 6) (by omega) hL dL_law_597 ?_
  refine lv_i2l hx hb dL_law_598 rfl ?_
  refine lv_ldc2 hx hb hown (hts _ wd_781) dL_law_599 ?_
  refine lv_land hx hb dL_law_602 ?_
  refine lv_lor hx hb dL_law_603 ?_
  refine tp_l (y := lj (xs (i + 5)) (xs (i + 6))) rfl ?_
  refine lx_I (w1 := wc ca ad S_1 ++ wO ca oa f) (wd := wq ca md) (S := M) (w2 := []) (As := [.int (xs (i + 1)), .int (xs (i + 2)), .int (xs (i + 3)), .int (xs (i + 4)), .long (lj (xs (i + 5)) (xs (i + 6)))]) (rest := [.int r_1]) (kX6_lend l dC dI ca md M (xs (i + 1)) (xs (i + 2)) (xs (i + 3)) (xs (i + 4)) (lj (xs (i + 5)) (xs (i + 6))) nb nr hb6 hr2 hmi) ⟨hx, hb, hml, hown, hts⟩ (cwV 5 hts (wa_gV wd_700 wd_701 wd_702 wd_8 wd_703) rfl rfl rfl (by decide +kernel) ⟨Nat.le_of_ble_eq_true rfl, Nat.le_of_ble_eq_true rfl⟩) hK (wl_m hw) hA 0 rfl rfl rfl rfl hl.1 rfl (Nat.le_of_ble_eq_true rfl) dL_law_604 ⟨show cells + 0 ≤ 601024 by omega, show slots + 0 ≤ 7293033 by omega⟩ (fun r_2 M_2 H locs hp_2 hw => ?_)
  have hw := wl_mb hw
  obtain ⟨e9, hR2⟩ := ls_lend hR hp_1 hp_2
  refine lv_icmp_eq (tgt := 1184) hx hb dL_law_607 (by decide) (fun _ => ?_) (fun h9 => absurd e9 h9)
  exact W.widen (Nat.le_add_right _ _) (Nat.le_add_right _ _) (kk _ _ _ _ _ _ hR2 hw hl)

set_option maxHeartbeats 4000000 in
set_option maxRecDepth 100000 in
theorem lc_ask {p : Program} {l : Launch} {e : Env} {s : State} {m : MethodId} {below : List Frame} {meth : Method} {c : Code} {dC : Nat → ClassId} {dI : Nat → Nat → Nat} {ca : Nat → ClassId} {ad md : Nat → Nat} {oa b L i cells slots : Nat} {xs : Nat → Int32} {S M : sSt} {f : Nat → Int64} {H : Heap} {locs : List Loc} {ls : Array Slot} {Q : State → Prop} (C0 : LC p l s m meth c dC dI ca b L xs) (hi : i + 7 ≤ L) (hR : RE S M) (hc : cells + 1 ≤ 601024) (hs : slots + 6 ≤ 7293033) (hw : wo_w (dC, dI) vwCl (lwA s) s.heap (wL ca ad md oa S M f) H locs) (hl : lv_has ls 8 (lwl b oa i ad md)) (kk : lw_N p l e s m below meth c dC dI ca ad md oa b i cells slots Q) : W p l e room_1 s m #[Value.ref b] below meth c H locs cells slots Q (F0 m 612 ls []) := by
  obtain ⟨hx, hb, hr, hml, hown, hts, hX, hbl, hlocks, hK, hZ, hL, htr⟩ := C0
  have hA : ∀ q : Nat, s.heap.size ≤ q → lwA s q := fun _ h => h
  have hbA : ¬ lwA s b := Nat.not_le.mpr hbl
  obtain ⟨nb, nr, hR⟩ := hR
  obtain ⟨hb6, hr2, hri, hmi, hRWs, hRWm⟩ := RR_h hR
  refine lv_aload_n hx hb dL_law_612 rfl (lv_at hl 3 rfl) ?_
  refine lv_aload_n hx hb dL_law_613 rfl (lv_at hl 4 rfl) ?_
  refine lv_iload hx hb dL_law_614 (lv_at hl 0 rfl) ?_
  refine lv_iconst (v := nI 1) hx hb dL_law_616 (by decide) ?_
  refine lv_iadd hx hb dL_law_617 ?_
  refine tp_i (nI_add i 1) ?_
  refine ws_ld hx hb hX hbl hbA hw (j := i + 1) (by omega) hL dL_law_618 ?_
  refine lv_aload_n hx hb dL_law_619 rfl (lv_at hl 4 rfl) ?_
  refine lv_iload hx hb dL_law_620 (lv_at hl 0 rfl) ?_
  refine lv_iconst (v := nI 2) hx hb dL_law_622 (by decide) ?_
  refine lv_iadd hx hb dL_law_623 ?_
  refine tp_i (nI_add i 2) ?_
  refine ws_ld hx hb hX hbl hbA hw (j := i + 2) (by omega) hL dL_law_624 ?_
  refine lv_aload_n hx hb dL_law_625 rfl (lv_at hl 4 rfl) ?_
  refine lv_iload hx hb dL_law_626 (lv_at hl 0 rfl) ?_
  refine lv_iconst (v := nI 3) hx hb dL_law_628 (by decide) ?_
  refine lv_iadd hx hb dL_law_629 ?_
  refine tp_i (nI_add i 3) ?_
  refine ws_ld hx hb hX hbl hbA hw (j := i + 3) (by omega) hL dL_law_630 ?_
  refine lv_aload_n hx hb dL_law_631 rfl (lv_at hl 4 rfl) ?_
  refine lv_iload hx hb dL_law_632 (lv_at hl 0 rfl) ?_
  refine lv_iconst (v := nI 4) hx hb dL_law_634 (by decide) ?_
  refine lv_iadd hx hb dL_law_635 ?_
  refine tp_i (nI_add i 4) ?_
  refine ws_ld hx hb hX hbl hbA hw (j := i + 4) (by omega) hL dL_law_636 ?_
  refine lv_i2l hx hb dL_law_637 rfl ?_
  refine lv_bipush (v := nI 32) hx hb dL_law_638 (by decide) ?_
  refine lv_lshl hx hb dL_law_640 rfl ?_
  refine lv_aload_n hx hb dL_law_641 rfl (lv_at hl 4 rfl) ?_
  refine lv_iload hx hb dL_law_642 (lv_at hl 0 rfl) ?_
  refine lv_iconst (v := nI 5) hx hb dL_law_644 (by decide) ?_
  refine lv_iadd hx hb dL_law_645 ?_
  refine tp_i (nI_add i 5) ?_
  refine ws_ld hx hb hX hbl hbA hw (j := i + 5) (by omega) hL dL_law_646 ?_
  refine lv_i2l hx hb dL_law_647 rfl ?_
  refine lv_ldc2 hx hb hown (hts _ wd_781) dL_law_648 ?_
  refine lv_land hx hb dL_law_651 ?_
  refine lv_lor hx hb dL_law_652 ?_
  refine tp_l (y := lj (xs (i + 4)) (xs (i + 5))) rfl ?_
  refine lx_I (w1 := []) (wd := wc ca ad) (S := S) (w2 := wO ca oa f ++ wq ca md M) (As := [.int (xs (i + 1)), .int (xs (i + 2)), .int (xs (i + 3)), .long (lj (xs (i + 4)) (xs (i + 5)))]) (rest := []) (kX5_ask l dC dI ca ad S (xs (i + 1)) (xs (i + 2)) (xs (i + 3)) (lj (xs (i + 4)) (xs (i + 5))) nb nr hb6 hr2 hri) ⟨hx, hb, hml, hown, hts⟩ (cwV 4 hts (wa_gV wd_254 wd_255 wd_256 wd_1 wd_257) rfl rfl rfl (by decide +kernel) ⟨Nat.le_of_ble_eq_true rfl, Nat.le_of_ble_eq_true rfl⟩) hK (wl_x hw) hA 0 rfl rfl rfl rfl hl.1 rfl (Nat.le_of_ble_eq_true rfl) dL_law_653 ⟨show cells + 0 ≤ 601024 by omega, show slots + 0 ≤ 7293033 by omega⟩ (fun r_1 S_1 H locs hp_1 hw => ?_)
  have hw := wl_xb hw
  refine lv_aload_n hx hb dL_law_656 rfl (lv_at hl 2 rfl) ?_
  refine lv_aload_n hx hb dL_law_657 rfl (lv_at hl 4 rfl) ?_
  refine lv_iload hx hb dL_law_658 (lv_at hl 0 rfl) ?_
  refine lv_iconst (v := nI 1) hx hb dL_law_660 (by decide) ?_
  refine lv_iadd hx hb dL_law_661 ?_
  refine tp_i (nI_add i 1) ?_
  refine ws_ld hx hb hX hbl hbA hw (j := i + 1) (by omega) hL dL_law_662 ?_
  refine lv_aload_n hx hb dL_law_663 rfl (lv_at hl 4 rfl) ?_
  refine lv_iload hx hb dL_law_664 (lv_at hl 0 rfl) ?_
  refine lv_iconst (v := nI 2) hx hb dL_law_666 (by decide) ?_
  refine lv_iadd hx hb dL_law_667 ?_
  refine tp_i (nI_add i 2) ?_
  refine ws_ld hx hb hX hbl hbA hw (j := i + 2) (by omega) hL dL_law_668 ?_
  refine lv_aload_n hx hb dL_law_669 rfl (lv_at hl 4 rfl) ?_
  refine lv_iload hx hb dL_law_670 (lv_at hl 0 rfl) ?_
  refine lv_iconst (v := nI 3) hx hb dL_law_672 (by decide) ?_
  refine lv_iadd hx hb dL_law_673 ?_
  refine tp_i (nI_add i 3) ?_
  refine ws_ld hx hb hX hbl hbA hw (j := i + 3) (by omega) hL dL_law_674 ?_
  refine lv_aload_n hx hb dL_law_675 rfl (lv_at hl 4 rfl) ?_
  refine lv_iload hx hb dL_law_676 (lv_at hl 0 rfl) ?_
  refine lv_iconst (v := nI 4) hx hb dL_law_678 (by decide) ?_
  refine lv_iadd hx hb dL_law_679 ?_
  refine tp_i (nI_add i 4) ?_
  refine ws_ld hx hb hX hbl hbA hw (j := i + 4) (by omega) hL dL_law_680 ?_
  refine lv_i2l hx hb dL_law_681 rfl ?_
  refine lv_bipush (v := nI 32) hx hb dL_law_682 (by decide) ?_
  refine lv_lshl hx hb dL_law_684 rfl ?_
  refine lv_aload_n hx hb dL_law_685 rfl (lv_at hl 4 rfl) ?_
  refine lv_iload hx hb dL_law_686 (lv_at hl 0 rfl) ?_
  refine lv_iconst (v := nI 5) hx hb dL_law_688 (by decide) ?_
  refine lv_iadd hx hb dL_law_689 ?_
  refine tp_i (nI_add i 5) ?_
  refine ws_ld hx hb hX hbl hbA hw (j := i + 5) (by omega) hL dL_law_690 ?_
  refine lv_i2l hx hb dL_law_691 rfl ?_
  refine lv_ldc2 hx hb hown (hts _ wd_781) dL_law_692 ?_
  refine lv_land hx hb dL_law_695 ?_
  refine lv_lor hx hb dL_law_696 ?_
  refine tp_l (y := lj (xs (i + 4)) (xs (i + 5))) rfl ?_
  refine lx_I (w1 := wc ca ad S_1 ++ wO ca oa f) (wd := wq ca md) (S := M) (w2 := []) (As := [.int (xs (i + 1)), .int (xs (i + 2)), .int (xs (i + 3)), .long (lj (xs (i + 4)) (xs (i + 5)))]) (rest := [.int r_1]) (kX6_ask l dC dI ca md M (xs (i + 1)) (xs (i + 2)) (xs (i + 3)) (lj (xs (i + 4)) (xs (i + 5))) nb nr hb6 hr2 hmi) ⟨hx, hb, hml, hown, hts⟩ (cwV 4 hts (wa_gV wd_708 wd_709 wd_710 wd_8 wd_711) rfl rfl rfl (by decide +kernel) ⟨Nat.le_of_ble_eq_true rfl, Nat.le_of_ble_eq_true rfl⟩) hK (wl_m hw) hA 0 rfl rfl rfl rfl hl.1 rfl (Nat.le_of_ble_eq_true rfl) dL_law_697 ⟨show cells + 0 ≤ 601024 by omega, show slots + 0 ≤ 7293033 by omega⟩ (fun r_2 M_2 H locs hp_2 hw => ?_)
  have hw := wl_mb hw
  obtain ⟨e9, hR2⟩ := ls_ask hR hp_1 hp_2
  refine lv_icmp_eq (tgt := 1184) hx hb dL_law_700 (by decide) (fun _ => ?_) (fun h9 => absurd e9 h9)
  exact W.widen (Nat.le_add_right _ _) (Nat.le_add_right _ _) (kk _ _ _ _ _ _ hR2 hw hl)

set_option maxHeartbeats 4000000 in
set_option maxRecDepth 100000 in
theorem lc_deliver {p : Program} {l : Launch} {e : Env} {s : State} {m : MethodId} {below : List Frame} {meth : Method} {c : Code} {dC : Nat → ClassId} {dI : Nat → Nat → Nat} {ca : Nat → ClassId} {ad md : Nat → Nat} {oa b L i cells slots : Nat} {xs : Nat → Int32} {S M : sSt} {f : Nat → Int64} {H : Heap} {locs : List Loc} {ls : Array Slot} {Q : State → Prop} (C0 : LC p l s m meth c dC dI ca b L xs) (hi : i + 7 ≤ L) (hR : RE S M) (hc : cells + 1 ≤ 601024) (hs : slots + 6 ≤ 7293033) (hw : wo_w (dC, dI) vwCl (lwA s) s.heap (wL ca ad md oa S M f) H locs) (hl : lv_has ls 8 (lwl b oa i ad md)) (kk : lw_N p l e s m below meth c dC dI ca ad md oa b i cells slots Q) : W p l e room_1 s m #[Value.ref b] below meth c H locs cells slots Q (F0 m 705 ls []) := by
  obtain ⟨hx, hb, hr, hml, hown, hts, hX, hbl, hlocks, hK, hZ, hL, htr⟩ := C0
  have hA : ∀ q : Nat, s.heap.size ≤ q → lwA s q := fun _ h => h
  have hbA : ¬ lwA s b := Nat.not_le.mpr hbl
  obtain ⟨nb, nr, hR⟩ := hR
  obtain ⟨hb6, hr2, hri, hmi, hRWs, hRWm⟩ := RR_h hR
  refine lv_aload_n hx hb dL_law_705 rfl (lv_at hl 3 rfl) ?_
  refine lv_aload_n hx hb dL_law_706 rfl (lv_at hl 4 rfl) ?_
  refine lv_iload hx hb dL_law_707 (lv_at hl 0 rfl) ?_
  refine lv_iconst (v := nI 1) hx hb dL_law_709 (by decide) ?_
  refine lv_iadd hx hb dL_law_710 ?_
  refine tp_i (nI_add i 1) ?_
  refine ws_ld hx hb hX hbl hbA hw (j := i + 1) (by omega) hL dL_law_711 ?_
  refine lx_I (w1 := []) (wd := wc ca ad) (S := S) (w2 := wO ca oa f ++ wq ca md M) (As := [.int (xs (i + 1))]) (rest := []) (kX5_deliver l dC dI ca ad S (xs (i + 1)) nb nr hb6 hr2 hri hRWs) ⟨hx, hb, hml, hown, hts⟩ (cwV 1 hts (wa_gV wd_265 wd_266 wd_267 wd_1 wd_268) rfl rfl rfl (by decide +kernel) ⟨Nat.le_of_ble_eq_true rfl, Nat.le_of_ble_eq_true rfl⟩) hK (wl_x hw) hA 0 rfl rfl rfl rfl hl.1 rfl (Nat.le_of_ble_eq_true rfl) dL_law_712 ⟨show cells + 0 ≤ 601024 by omega, show slots + 0 ≤ 7293033 by omega⟩ (fun r_1 S_1 H locs hp_1 hw => ?_)
  have hw := wl_xb hw
  refine lv_aload_n hx hb dL_law_715 rfl (lv_at hl 2 rfl) ?_
  refine lv_aload_n hx hb dL_law_716 rfl (lv_at hl 4 rfl) ?_
  refine lv_iload hx hb dL_law_717 (lv_at hl 0 rfl) ?_
  refine lv_iconst (v := nI 1) hx hb dL_law_719 (by decide) ?_
  refine lv_iadd hx hb dL_law_720 ?_
  refine tp_i (nI_add i 1) ?_
  refine ws_ld hx hb hX hbl hbA hw (j := i + 1) (by omega) hL dL_law_721 ?_
  refine lx_I (w1 := wc ca ad S_1 ++ wO ca oa f) (wd := wq ca md) (S := M) (w2 := []) (As := [.int (xs (i + 1))]) (rest := [.int r_1]) (kX6_deliver l dC dI ca md M (xs (i + 1)) nb nr hb6 hr2 hmi hRWm) ⟨hx, hb, hml, hown, hts⟩ (cwV 1 hts (wa_gV wd_712 wd_713 wd_714 wd_8 wd_715) rfl rfl rfl (by decide +kernel) ⟨Nat.le_of_ble_eq_true rfl, Nat.le_of_ble_eq_true rfl⟩) hK (wl_m hw) hA 0 rfl rfl rfl rfl hl.1 rfl (Nat.le_of_ble_eq_true rfl) dL_law_722 ⟨show cells + 0 ≤ 601024 by omega, show slots + 0 ≤ 7293033 by omega⟩ (fun r_2 M_2 H locs hp_2 hw => ?_)
  have hw := wl_mb hw
  obtain ⟨e9, hR2⟩ := ls_deliver hR hp_1 hp_2
  refine lv_icmp_eq (tgt := 1184) hx hb dL_law_725 (by decide) (fun _ => ?_) (fun h9 => absurd e9 h9)
  exact W.widen (Nat.le_add_right _ _) (Nat.le_add_right _ _) (kk _ _ _ _ _ _ hR2 hw hl)

set_option maxHeartbeats 4000000 in
set_option maxRecDepth 100000 in
theorem lc_lose {p : Program} {l : Launch} {e : Env} {s : State} {m : MethodId} {below : List Frame} {meth : Method} {c : Code} {dC : Nat → ClassId} {dI : Nat → Nat → Nat} {ca : Nat → ClassId} {ad md : Nat → Nat} {oa b L i cells slots : Nat} {xs : Nat → Int32} {S M : sSt} {f : Nat → Int64} {H : Heap} {locs : List Loc} {ls : Array Slot} {Q : State → Prop} (C0 : LC p l s m meth c dC dI ca b L xs) (hi : i + 7 ≤ L) (hR : RE S M) (hc : cells + 1 ≤ 601024) (hs : slots + 6 ≤ 7293033) (hw : wo_w (dC, dI) vwCl (lwA s) s.heap (wL ca ad md oa S M f) H locs) (hl : lv_has ls 8 (lwl b oa i ad md)) (kk : lw_N p l e s m below meth c dC dI ca ad md oa b i cells slots Q) : W p l e room_1 s m #[Value.ref b] below meth c H locs cells slots Q (F0 m 730 ls []) := by
  obtain ⟨hx, hb, hr, hml, hown, hts, hX, hbl, hlocks, hK, hZ, hL, htr⟩ := C0
  have hA : ∀ q : Nat, s.heap.size ≤ q → lwA s q := fun _ h => h
  have hbA : ¬ lwA s b := Nat.not_le.mpr hbl
  obtain ⟨nb, nr, hR⟩ := hR
  obtain ⟨hb6, hr2, hri, hmi, hRWs, hRWm⟩ := RR_h hR
  refine lv_aload_n hx hb dL_law_730 rfl (lv_at hl 3 rfl) ?_
  refine lv_aload_n hx hb dL_law_731 rfl (lv_at hl 4 rfl) ?_
  refine lv_iload hx hb dL_law_732 (lv_at hl 0 rfl) ?_
  refine lv_iconst (v := nI 1) hx hb dL_law_734 (by decide) ?_
  refine lv_iadd hx hb dL_law_735 ?_
  refine tp_i (nI_add i 1) ?_
  refine ws_ld hx hb hX hbl hbA hw (j := i + 1) (by omega) hL dL_law_736 ?_
  refine lx_I (w1 := []) (wd := wc ca ad) (S := S) (w2 := wO ca oa f ++ wq ca md M) (As := [.int (xs (i + 1))]) (rest := []) (kX5_lose l dC dI ca ad S (xs (i + 1)) nb nr hb6 hr2 hri) ⟨hx, hb, hml, hown, hts⟩ (cwV 1 hts (wa_gV wd_289 wd_290 wd_291 wd_1 wd_292) rfl rfl rfl (by decide +kernel) ⟨Nat.le_of_ble_eq_true rfl, Nat.le_of_ble_eq_true rfl⟩) hK (wl_x hw) hA 0 rfl rfl rfl rfl hl.1 rfl (Nat.le_of_ble_eq_true rfl) dL_law_737 ⟨show cells + 0 ≤ 601024 by omega, show slots + 0 ≤ 7293033 by omega⟩ (fun r_1 S_1 H locs hp_1 hw => ?_)
  have hw := wl_xb hw
  refine lv_aload_n hx hb dL_law_740 rfl (lv_at hl 2 rfl) ?_
  refine lv_aload_n hx hb dL_law_741 rfl (lv_at hl 4 rfl) ?_
  refine lv_iload hx hb dL_law_742 (lv_at hl 0 rfl) ?_
  refine lv_iconst (v := nI 1) hx hb dL_law_744 (by decide) ?_
  refine lv_iadd hx hb dL_law_745 ?_
  refine tp_i (nI_add i 1) ?_
  refine ws_ld hx hb hX hbl hbA hw (j := i + 1) (by omega) hL dL_law_746 ?_
  refine lx_I (w1 := wc ca ad S_1 ++ wO ca oa f) (wd := wq ca md) (S := M) (w2 := []) (As := [.int (xs (i + 1))]) (rest := [.int r_1]) (kX6_lose l dC dI ca md M (xs (i + 1)) nb nr hb6 hr2 hmi) ⟨hx, hb, hml, hown, hts⟩ (cwV 1 hts (wa_gV wd_724 wd_725 wd_726 wd_8 wd_727) rfl rfl rfl (by decide +kernel) ⟨Nat.le_of_ble_eq_true rfl, Nat.le_of_ble_eq_true rfl⟩) hK (wl_m hw) hA 0 rfl rfl rfl rfl hl.1 rfl (Nat.le_of_ble_eq_true rfl) dL_law_747 ⟨show cells + 0 ≤ 601024 by omega, show slots + 0 ≤ 7293033 by omega⟩ (fun r_2 M_2 H locs hp_2 hw => ?_)
  have hw := wl_mb hw
  obtain ⟨e9, hR2⟩ := ls_lose hR hp_1 hp_2
  refine lv_icmp_eq (tgt := 1184) hx hb dL_law_750 (by decide) (fun _ => ?_) (fun h9 => absurd e9 h9)
  exact W.widen (Nat.le_add_right _ _) (Nat.le_add_right _ _) (kk _ _ _ _ _ _ hR2 hw hl)

set_option maxHeartbeats 4000000 in
set_option maxRecDepth 100000 in
theorem lc_end {p : Program} {l : Launch} {e : Env} {s : State} {m : MethodId} {below : List Frame} {meth : Method} {c : Code} {dC : Nat → ClassId} {dI : Nat → Nat → Nat} {ca : Nat → ClassId} {ad md : Nat → Nat} {oa b L i cells slots : Nat} {xs : Nat → Int32} {S M : sSt} {f : Nat → Int64} {H : Heap} {locs : List Loc} {ls : Array Slot} {Q : State → Prop} (C0 : LC p l s m meth c dC dI ca b L xs) (hi : i + 7 ≤ L) (hR : RE S M) (hc : cells + 1 ≤ 601024) (hs : slots + 6 ≤ 7293033) (hw : wo_w (dC, dI) vwCl (lwA s) s.heap (wL ca ad md oa S M f) H locs) (hl : lv_has ls 8 (lwl b oa i ad md)) (kk : lw_N p l e s m below meth c dC dI ca ad md oa b i cells slots Q) : W p l e room_1 s m #[Value.ref b] below meth c H locs cells slots Q (F0 m 755 ls []) := by
  obtain ⟨hx, hb, hr, hml, hown, hts, hX, hbl, hlocks, hK, hZ, hL, htr⟩ := C0
  have hA : ∀ q : Nat, s.heap.size ≤ q → lwA s q := fun _ h => h
  have hbA : ¬ lwA s b := Nat.not_le.mpr hbl
  obtain ⟨nb, nr, hR⟩ := hR
  obtain ⟨hb6, hr2, hri, hmi, hRWs, hRWm⟩ := RR_h hR
  refine lv_aload_n hx hb dL_law_755 rfl (lv_at hl 3 rfl) ?_
  refine lv_aload_n hx hb dL_law_756 rfl (lv_at hl 4 rfl) ?_
  refine lv_iload hx hb dL_law_757 (lv_at hl 0 rfl) ?_
  refine lv_iconst (v := nI 1) hx hb dL_law_759 (by decide) ?_
  refine lv_iadd hx hb dL_law_760 ?_
  refine tp_i (nI_add i 1) ?_
  refine ws_ld hx hb hX hbl hbA hw (j := i + 1) (by omega) hL dL_law_761 ?_
  refine lx_I (w1 := []) (wd := wc ca ad) (S := S) (w2 := wO ca oa f ++ wq ca md M) (As := [.int (xs (i + 1))]) (rest := []) (kX5_end l dC dI ca ad S (xs (i + 1)) nb nr hb6 hr2 hri) ⟨hx, hb, hml, hown, hts⟩ (cwV 1 hts (wa_gV wd_293 wd_294 wd_295 wd_1 wd_296) rfl rfl rfl (by decide +kernel) ⟨Nat.le_of_ble_eq_true rfl, Nat.le_of_ble_eq_true rfl⟩) hK (wl_x hw) hA 0 rfl rfl rfl rfl hl.1 rfl (Nat.le_of_ble_eq_true rfl) dL_law_762 ⟨show cells + 0 ≤ 601024 by omega, show slots + 0 ≤ 7293033 by omega⟩ (fun r_1 S_1 H locs hp_1 hw => ?_)
  have hw := wl_xb hw
  refine lv_aload_n hx hb dL_law_765 rfl (lv_at hl 2 rfl) ?_
  refine lv_aload_n hx hb dL_law_766 rfl (lv_at hl 4 rfl) ?_
  refine lv_iload hx hb dL_law_767 (lv_at hl 0 rfl) ?_
  refine lv_iconst (v := nI 1) hx hb dL_law_769 (by decide) ?_
  refine lv_iadd hx hb dL_law_770 ?_
  refine tp_i (nI_add i 1) ?_
  refine ws_ld hx hb hX hbl hbA hw (j := i + 1) (by omega) hL dL_law_771 ?_
  refine lx_I (w1 := wc ca ad S_1 ++ wO ca oa f) (wd := wq ca md) (S := M) (w2 := []) (As := [.int (xs (i + 1))]) (rest := [.int r_1]) (kX6_end l dC dI ca md M (xs (i + 1)) nb nr hb6 hr2 hmi (ls_endH hR _)) ⟨hx, hb, hml, hown, hts⟩ (cwV 1 hts (wa_gV wd_728 wd_729 wd_730 wd_8 wd_731) rfl rfl rfl (by decide +kernel) ⟨Nat.le_of_ble_eq_true rfl, Nat.le_of_ble_eq_true rfl⟩) hK (wl_m hw) hA 0 rfl rfl rfl rfl hl.1 rfl (Nat.le_of_ble_eq_true rfl) dL_law_772 ⟨show cells + 0 ≤ 601024 by omega, show slots + 0 ≤ 7293033 by omega⟩ (fun r_2 M_2 H locs hp_2 hw => ?_)
  have hw := wl_mb hw
  obtain ⟨e9, hR2⟩ := ls_end hR hp_1 hp_2
  refine lv_icmp_eq (tgt := 1184) hx hb dL_law_775 (by decide) (fun _ => ?_) (fun h9 => absurd e9 h9)
  exact W.widen (Nat.le_add_right _ _) (Nat.le_add_right _ _) (kk _ _ _ _ _ _ hR2 hw hl)

set_option maxHeartbeats 4000000 in
set_option maxRecDepth 100000 in
theorem lc_vouch {p : Program} {l : Launch} {e : Env} {s : State} {m : MethodId} {below : List Frame} {meth : Method} {c : Code} {dC : Nat → ClassId} {dI : Nat → Nat → Nat} {ca : Nat → ClassId} {ad md : Nat → Nat} {oa b L i cells slots : Nat} {xs : Nat → Int32} {S M : sSt} {f : Nat → Int64} {H : Heap} {locs : List Loc} {ls : Array Slot} {Q : State → Prop} (C0 : LC p l s m meth c dC dI ca b L xs) (hi : i + 7 ≤ L) (hR : RE S M) (hc : cells + 1 ≤ 601024) (hs : slots + 6 ≤ 7293033) (hw : wo_w (dC, dI) vwCl (lwA s) s.heap (wL ca ad md oa S M f) H locs) (hl : lv_has ls 8 (lwl b oa i ad md)) (kk : lw_N p l e s m below meth c dC dI ca ad md oa b i cells slots Q) : W p l e room_1 s m #[Value.ref b] below meth c H locs cells slots Q (F0 m 780 ls []) := by
  obtain ⟨hx, hb, hr, hml, hown, hts, hX, hbl, hlocks, hK, hZ, hL, htr⟩ := C0
  have hA : ∀ q : Nat, s.heap.size ≤ q → lwA s q := fun _ h => h
  have hbA : ¬ lwA s b := Nat.not_le.mpr hbl
  obtain ⟨nb, nr, hR⟩ := hR
  obtain ⟨hb6, hr2, hri, hmi, hRWs, hRWm⟩ := RR_h hR
  refine lv_aload_n hx hb dL_law_780 rfl (lv_at hl 3 rfl) ?_
  refine lv_aload_n hx hb dL_law_781 rfl (lv_at hl 4 rfl) ?_
  refine lv_iload hx hb dL_law_782 (lv_at hl 0 rfl) ?_
  refine lv_iconst (v := nI 1) hx hb dL_law_784 (by decide) ?_
  refine lv_iadd hx hb dL_law_785 ?_
  refine tp_i (nI_add i 1) ?_
  refine ws_ld hx hb hX hbl hbA hw (j := i + 1) (by omega) hL dL_law_786 ?_
  refine lv_aload_n hx hb dL_law_787 rfl (lv_at hl 4 rfl) ?_
  refine lv_iload hx hb dL_law_788 (lv_at hl 0 rfl) ?_
  refine lv_iconst (v := nI 2) hx hb dL_law_790 (by decide) ?_
  refine lv_iadd hx hb dL_law_791 ?_
  refine tp_i (nI_add i 2) ?_
  refine ws_ld hx hb hX hbl hbA hw (j := i + 2) (by omega) hL dL_law_792 ?_
  refine lx_I (w1 := []) (wd := wc ca ad) (S := S) (w2 := wO ca oa f ++ wq ca md M) (As := [.int (xs (i + 1)), .int (xs (i + 2))]) (rest := []) (kX5_vouch l dC dI ca ad S (xs (i + 1)) (xs (i + 2)) nb nr hb6 hr2 hri) ⟨hx, hb, hml, hown, hts⟩ (cwV 2 hts (wa_gV wd_340 wd_341 wd_342 wd_1 wd_343) rfl rfl rfl (by decide +kernel) ⟨Nat.le_of_ble_eq_true rfl, Nat.le_of_ble_eq_true rfl⟩) hK (wl_x hw) hA 0 rfl rfl rfl rfl hl.1 rfl (Nat.le_of_ble_eq_true rfl) dL_law_793 ⟨show cells + 0 ≤ 601024 by omega, show slots + 0 ≤ 7293033 by omega⟩ (fun r_1 S_1 H locs hp_1 hw => ?_)
  have hw := wl_xb hw
  refine lv_aload_n hx hb dL_law_796 rfl (lv_at hl 2 rfl) ?_
  refine lv_aload_n hx hb dL_law_797 rfl (lv_at hl 4 rfl) ?_
  refine lv_iload hx hb dL_law_798 (lv_at hl 0 rfl) ?_
  refine lv_iconst (v := nI 1) hx hb dL_law_800 (by decide) ?_
  refine lv_iadd hx hb dL_law_801 ?_
  refine tp_i (nI_add i 1) ?_
  refine ws_ld hx hb hX hbl hbA hw (j := i + 1) (by omega) hL dL_law_802 ?_
  refine lv_aload_n hx hb dL_law_803 rfl (lv_at hl 4 rfl) ?_
  refine lv_iload hx hb dL_law_804 (lv_at hl 0 rfl) ?_
  refine lv_iconst (v := nI 2) hx hb dL_law_806 (by decide) ?_
  refine lv_iadd hx hb dL_law_807 ?_
  refine tp_i (nI_add i 2) ?_
  refine ws_ld hx hb hX hbl hbA hw (j := i + 2) (by omega) hL dL_law_808 ?_
  refine lx_I (w1 := wc ca ad S_1 ++ wO ca oa f) (wd := wq ca md) (S := M) (w2 := []) (As := [.int (xs (i + 1)), .int (xs (i + 2))]) (rest := [.int r_1]) (kX6_vouch l dC dI ca md M (xs (i + 1)) (xs (i + 2)) nb nr hb6 hr2 hmi (ls_vouchH hR _ _)) ⟨hx, hb, hml, hown, hts⟩ (cwV 2 hts (wa_gV wd_740 wd_741 wd_742 wd_8 wd_743) rfl rfl rfl (by decide +kernel) ⟨Nat.le_of_ble_eq_true rfl, Nat.le_of_ble_eq_true rfl⟩) hK (wl_m hw) hA 0 rfl rfl rfl rfl hl.1 rfl (Nat.le_of_ble_eq_true rfl) dL_law_809 ⟨show cells + 0 ≤ 601024 by omega, show slots + 0 ≤ 7293033 by omega⟩ (fun r_2 M_2 H locs hp_2 hw => ?_)
  have hw := wl_mb hw
  obtain ⟨e9, hR2⟩ := ls_vouch hR hp_1 hp_2
  refine lv_icmp_eq (tgt := 1184) hx hb dL_law_812 (by decide) (fun _ => ?_) (fun h9 => absurd e9 h9)
  exact W.widen (Nat.le_add_right _ _) (Nat.le_add_right _ _) (kk _ _ _ _ _ _ hR2 hw hl)

set_option maxHeartbeats 4000000 in
set_option maxRecDepth 100000 in
theorem lc_sum {p : Program} {l : Launch} {e : Env} {s : State} {m : MethodId} {below : List Frame} {meth : Method} {c : Code} {dC : Nat → ClassId} {dI : Nat → Nat → Nat} {ca : Nat → ClassId} {ad md : Nat → Nat} {oa b L i cells slots : Nat} {xs : Nat → Int32} {S M : sSt} {f : Nat → Int64} {H : Heap} {locs : List Loc} {ls : Array Slot} {Q : State → Prop} (C0 : LC p l s m meth c dC dI ca b L xs) (hi : i + 7 ≤ L) (hR : RE S M) (hc : cells + 1 ≤ 601024) (hs : slots + 6 ≤ 7293033) (hw : wo_w (dC, dI) vwCl (lwA s) s.heap (wL ca ad md oa S M f) H locs) (hl : lv_has ls 8 (lwl b oa i ad md)) (kk : lw_N p l e s m below meth c dC dI ca ad md oa b i cells slots Q) : W p l e room_1 s m #[Value.ref b] below meth c H locs cells slots Q (F0 m 896 ls []) := by
  obtain ⟨hx, hb, hr, hml, hown, hts, hX, hbl, hlocks, hK, hZ, hL, htr⟩ := C0
  have hA : ∀ q : Nat, s.heap.size ≤ q → lwA s q := fun _ h => h
  have hbA : ¬ lwA s b := Nat.not_le.mpr hbl
  obtain ⟨nb, nr, hR⟩ := hR
  obtain ⟨hb6, hr2, hri, hmi, hRWs, hRWm⟩ := RR_h hR
  refine lv_aload_n hx hb dL_law_896 rfl (lv_at hl 3 rfl) ?_
  refine lv_aload_n hx hb dL_law_897 rfl (lv_at hl 4 rfl) ?_
  refine lv_iload hx hb dL_law_898 (lv_at hl 0 rfl) ?_
  refine lv_iconst (v := nI 1) hx hb dL_law_900 (by decide) ?_
  refine lv_iadd hx hb dL_law_901 ?_
  refine tp_i (nI_add i 1) ?_
  refine ws_ld hx hb hX hbl hbA hw (j := i + 1) (by omega) hL dL_law_902 ?_
  refine lv_aload_n hx hb dL_law_903 rfl (lv_at hl 4 rfl) ?_
  refine lv_iload hx hb dL_law_904 (lv_at hl 0 rfl) ?_
  refine lv_iconst (v := nI 2) hx hb dL_law_906 (by decide) ?_
  refine lv_iadd hx hb dL_law_907 ?_
  refine tp_i (nI_add i 2) ?_
  refine ws_ld hx hb hX hbl hbA hw (j := i + 2) (by omega) hL dL_law_908 ?_
  refine lv_aload_n hx hb dL_law_909 rfl (lv_at hl 1 rfl) ?_
  refine lh_I (w1 := []) (wd := wh ca ad oa) (S := (S, f)) (w2 := wq ca md M) (As := [.ref (ad 0), .int (xs (i + 1)), .int (xs (i + 2)), .ref oa]) (rest := []) (kL_sum l htr dC dI ca ad oa S f (xs (i + 1)) (xs (i + 2)) nb nr hb6 hr2 hri) ⟨hx, hb, hml, hown, hts⟩ ⟨rfl, rfl, Nat.le_of_ble_eq_true rfl, Nat.le_of_ble_eq_true rfl⟩ wL_sum wd_0 (by decide) (show (parseMethodDescriptor yL_sum.desc).map (fun d => d.parameters.length) = some 4 from by decide +kernel) wd_521 wd_522 hK hZ (wl_h hw) hA hl.1 rfl (Nat.le_of_ble_eq_true rfl) dL_law_910 ⟨show cells + 1 ≤ 601024 by omega, show slots + 6 ≤ 7293033 by omega⟩ (fun r_1 X_1 H locs hp_1 hw => ?_)
  obtain ⟨S_1, f_1⟩ := X_1
  have hw := wl_hb hw
  refine lv_istore (lv' := [(5, .int r_1), (4, .int (nI i)), (3, .ref oa), (2, .ref (md 0)), (1, .ref (ad 0)), (0, .ref b)]) hx hb dL_law_913 hl (by decide) rfl (fun ls hl => ?_)
  refine lv_aload_n hx hb dL_law_915 rfl (lv_at hl 3 rfl) ?_
  refine lv_aload_n hx hb dL_law_916 rfl (lv_at hl 5 rfl) ?_
  refine lv_iload hx hb dL_law_917 (lv_at hl 1 rfl) ?_
  refine lv_iconst (v := nI 1) hx hb dL_law_919 (by decide) ?_
  refine lv_iadd hx hb dL_law_920 ?_
  refine tp_i (nI_add i 1) ?_
  refine ws_ld hx hb hX hbl hbA hw (j := i + 1) (by omega) hL dL_law_921 ?_
  refine lv_aload_n hx hb dL_law_922 rfl (lv_at hl 5 rfl) ?_
  refine lv_iload hx hb dL_law_923 (lv_at hl 1 rfl) ?_
  refine lv_iconst (v := nI 2) hx hb dL_law_925 (by decide) ?_
  refine lv_iadd hx hb dL_law_926 ?_
  refine tp_i (nI_add i 2) ?_
  refine ws_ld hx hb hX hbl hbA hw (j := i + 2) (by omega) hL dL_law_927 ?_
  refine lx_L (w1 := wc ca ad S_1 ++ wO ca oa f_1) (wd := wq ca md) (S := M) (w2 := []) (As := [.int (xs (i + 1)), .int (xs (i + 2))]) (rest := []) (kX6_sum l dC dI ca md M (xs (i + 1)) (xs (i + 2)) nb nr hb6 hr2 hmi) ⟨hx, hb, hml, hown, hts⟩ (cwV 2 hts (wa_gV wd_748 wd_749 wd_750 wd_8 wd_751) rfl rfl rfl (by decide +kernel) ⟨Nat.le_of_ble_eq_true rfl, Nat.le_of_ble_eq_true rfl⟩) hK (wl_m hw) hA 0 rfl rfl rfl rfl hl.1 rfl (Nat.le_of_ble_eq_true rfl) dL_law_928 ⟨show cells + 1 + 0 ≤ 601024 by omega, show slots + 6 + 0 ≤ 7293033 by omega⟩ (fun r_2 M_2 H locs hp_2 hw => ?_)
  have hw := wl_mb hw
  refine lv_lstore (lv' := [(6, .long r_2), (5, .int r_1), (4, .int (nI i)), (3, .ref oa), (2, .ref (md 0)), (1, .ref (ad 0)), (0, .ref b)]) hx hb dL_law_931 hl (by decide) rfl (fun ls hl => ?_)
  refine lv_aload_n hx hb dL_law_933 rfl (lv_at hl 4 rfl) ?_
  refine lx_I (w1 := wc ca ad S_1 ++ wO ca oa f_1) (wd := wq ca md) (S := M_2) (w2 := []) (As := []) (rest := []) (kX6_thrown l dC dI ca md M_2  ) ⟨hx, hb, hml, hown, hts⟩ (cwV 0 hts (wa_gV wd_647 wd_648 wd_649 wd_8 wd_650) rfl rfl rfl (by decide +kernel) ⟨Nat.le_of_ble_eq_true rfl, Nat.le_of_ble_eq_true rfl⟩) hK (wl_m hw) hA 0 rfl rfl rfl rfl hl.1 rfl (Nat.le_of_ble_eq_true rfl) dL_law_934 ⟨show cells + 1 + 0 ≤ 601024 by omega, show slots + 6 + 0 ≤ 7293033 by omega⟩ (fun r_3 M_3 H locs hp_3 hw => ?_)
  have hw := wl_mb hw
  obtain ⟨e8, e7, hR2⟩ := ls_sum hR hp_1 hp_2
  obtain ⟨e6, e5⟩ := hp_3
  rw [e5] at hw
  refine lv_iload hx hb dL_law_937 (lv_at hl 1 rfl) ?_
  refine lv_icmp_eq (tgt := 944) hx hb dL_law_939 (by decide) (fun _ => ?_) (fun h9 => absurd (e6.trans e8) h9)
  refine lv_iload hx hb dL_law_944 (lv_at hl 1 rfl) ?_
  refine lv_if_ne (tgt := 960) hx hb dL_law_946 (by decide) (fun _ => ?_) (fun c9 => ?_)
  · skip
    refine lv_goto (tgt := 1184) hx hb dL_law_960 (by decide) ?_
    exact kk _ _ _ _ _ _ hR2 hw (lv_sub hl [2, 3, 4, 5, 6] rfl)
  · skip
    refine lv_aload_n hx hb dL_law_949 rfl (lv_at hl 3 rfl) ?_
    refine lv_iconst (v := nI 0) hx hb dL_law_950 (by decide) ?_
    refine wo_lald hx hb hK hw 52 1 rfl rfl 0 rfl (by decide) (by decide) dL_law_951 ?_
    refine lv_lload hx hb dL_law_952 (lv_at hl 0 rfl) ?_
    refine lc_eq (tgt := 960) hx hb dL_law_954 dL_law_955 (by decide) (fun _ => ?_) (fun h9 => absurd (e7 (c9.trans nI_0.symm)) h9)
    refine lv_goto (tgt := 1184) hx hb dL_law_960 (by decide) ?_
    exact kk _ _ _ _ _ _ hR2 hw (lv_sub hl [2, 3, 4, 5, 6] rfl)

set_option maxHeartbeats 4000000 in
set_option maxRecDepth 100000 in
theorem lc_row {p : Program} {l : Launch} {e : Env} {s : State} {m : MethodId} {below : List Frame} {meth : Method} {c : Code} {dC : Nat → ClassId} {dI : Nat → Nat → Nat} {ca : Nat → ClassId} {ad md : Nat → Nat} {oa b L i cells slots : Nat} {xs : Nat → Int32} {S M : sSt} {f : Nat → Int64} {H : Heap} {locs : List Loc} {ls : Array Slot} {Q : State → Prop} (C0 : LC p l s m meth c dC dI ca b L xs) (hi : i + 7 ≤ L) (hR : RE S M) (hc : cells + 1 ≤ 601024) (hs : slots + 6 ≤ 7293033) (hw : wo_w (dC, dI) vwCl (lwA s) s.heap (wL ca ad md oa S M f) H locs) (hl : lv_has ls 8 (lwl b oa i ad md)) (kk : lw_N p l e s m below meth c dC dI ca ad md oa b i cells slots Q) : W p l e room_1 s m #[Value.ref b] below meth c H locs cells slots Q (F0 m 963 ls []) := by
  obtain ⟨hx, hb, hr, hml, hown, hts, hX, hbl, hlocks, hK, hZ, hL, htr⟩ := C0
  have hA : ∀ q : Nat, s.heap.size ≤ q → lwA s q := fun _ h => h
  have hbA : ¬ lwA s b := Nat.not_le.mpr hbl
  obtain ⟨nb, nr, hR⟩ := hR
  obtain ⟨hb6, hr2, hri, hmi, hRWs, hRWm⟩ := RR_h hR
  refine lv_aload_n hx hb dL_law_963 rfl (lv_at hl 3 rfl) ?_
  refine lv_aload_n hx hb dL_law_964 rfl (lv_at hl 4 rfl) ?_
  refine lv_iload hx hb dL_law_965 (lv_at hl 0 rfl) ?_
  refine lv_iconst (v := nI 1) hx hb dL_law_967 (by decide) ?_
  refine lv_iadd hx hb dL_law_968 ?_
  refine tp_i (nI_add i 1) ?_
  refine ws_ld hx hb hX hbl hbA hw (j := i + 1) (by omega) hL dL_law_969 ?_
  refine lv_aload_n hx hb dL_law_970 rfl (lv_at hl 4 rfl) ?_
  refine lv_iload hx hb dL_law_971 (lv_at hl 0 rfl) ?_
  refine lv_iconst (v := nI 2) hx hb dL_law_973 (by decide) ?_
  refine lv_iadd hx hb dL_law_974 ?_
  refine tp_i (nI_add i 2) ?_
  refine ws_ld hx hb hX hbl hbA hw (j := i + 2) (by omega) hL dL_law_975 ?_
  refine lx_I (w1 := []) (wd := wc ca ad) (S := S) (w2 := wO ca oa f ++ wq ca md M) (As := [.int (xs (i + 1)), .int (xs (i + 2))]) (rest := []) (kX5_row l dC dI ca ad S (xs (i + 1)) (xs (i + 2)) nb nr hb6 hr2 hri) ⟨hx, hb, hml, hown, hts⟩ (cwV 2 hts (wa_gV wd_349 wd_350 wd_351 wd_1 wd_352) rfl rfl rfl (by decide +kernel) ⟨Nat.le_of_ble_eq_true rfl, Nat.le_of_ble_eq_true rfl⟩) hK (wl_x hw) hA 0 rfl rfl rfl rfl hl.1 rfl (Nat.le_of_ble_eq_true rfl) dL_law_976 ⟨show cells + 0 ≤ 601024 by omega, show slots + 0 ≤ 7293033 by omega⟩ (fun r_1 S_1 H locs hp_1 hw => ?_)
  have hw := wl_xb hw
  refine lv_aload_n hx hb dL_law_979 rfl (lv_at hl 2 rfl) ?_
  refine lv_aload_n hx hb dL_law_980 rfl (lv_at hl 4 rfl) ?_
  refine lv_iload hx hb dL_law_981 (lv_at hl 0 rfl) ?_
  refine lv_iconst (v := nI 1) hx hb dL_law_983 (by decide) ?_
  refine lv_iadd hx hb dL_law_984 ?_
  refine tp_i (nI_add i 1) ?_
  refine ws_ld hx hb hX hbl hbA hw (j := i + 1) (by omega) hL dL_law_985 ?_
  refine lv_aload_n hx hb dL_law_986 rfl (lv_at hl 4 rfl) ?_
  refine lv_iload hx hb dL_law_987 (lv_at hl 0 rfl) ?_
  refine lv_iconst (v := nI 2) hx hb dL_law_989 (by decide) ?_
  refine lv_iadd hx hb dL_law_990 ?_
  refine tp_i (nI_add i 2) ?_
  refine ws_ld hx hb hX hbl hbA hw (j := i + 2) (by omega) hL dL_law_991 ?_
  refine lx_I (w1 := wc ca ad S_1 ++ wO ca oa f) (wd := wq ca md) (S := M) (w2 := []) (As := [.int (xs (i + 1)), .int (xs (i + 2))]) (rest := [.int r_1]) (kX6_row l dC dI ca md M (xs (i + 1)) (xs (i + 2)) nb nr hb6 hr2 hmi) ⟨hx, hb, hml, hown, hts⟩ (cwV 2 hts (wa_gV wd_761 wd_762 wd_763 wd_8 wd_764) rfl rfl rfl (by decide +kernel) ⟨Nat.le_of_ble_eq_true rfl, Nat.le_of_ble_eq_true rfl⟩) hK (wl_m hw) hA 0 rfl rfl rfl rfl hl.1 rfl (Nat.le_of_ble_eq_true rfl) dL_law_992 ⟨show cells + 0 ≤ 601024 by omega, show slots + 0 ≤ 7293033 by omega⟩ (fun r_2 M_2 H locs hp_2 hw => ?_)
  have hw := wl_mb hw
  obtain ⟨e9, hR2⟩ := ls_row hR hp_1 hp_2
  refine lv_icmp_eq (tgt := 1184) hx hb dL_law_995 (by decide) (fun _ => ?_) (fun h9 => absurd e9 h9)
  exact W.widen (Nat.le_add_right _ _) (Nat.le_add_right _ _) (kk _ _ _ _ _ _ hR2 hw hl)

set_option maxHeartbeats 4000000 in
set_option maxRecDepth 100000 in
theorem lc_lent {p : Program} {l : Launch} {e : Env} {s : State} {m : MethodId} {below : List Frame} {meth : Method} {c : Code} {dC : Nat → ClassId} {dI : Nat → Nat → Nat} {ca : Nat → ClassId} {ad md : Nat → Nat} {oa b L i cells slots : Nat} {xs : Nat → Int32} {S M : sSt} {f : Nat → Int64} {H : Heap} {locs : List Loc} {ls : Array Slot} {Q : State → Prop} (C0 : LC p l s m meth c dC dI ca b L xs) (hi : i + 7 ≤ L) (hR : RE S M) (hc : cells + 1 ≤ 601024) (hs : slots + 6 ≤ 7293033) (hw : wo_w (dC, dI) vwCl (lwA s) s.heap (wL ca ad md oa S M f) H locs) (hl : lv_has ls 8 (lwl b oa i ad md)) (kk : lw_N p l e s m below meth c dC dI ca ad md oa b i cells slots Q) : W p l e room_1 s m #[Value.ref b] below meth c H locs cells slots Q (F0 m 1000 ls []) := by
  obtain ⟨hx, hb, hr, hml, hown, hts, hX, hbl, hlocks, hK, hZ, hL, htr⟩ := C0
  have hA : ∀ q : Nat, s.heap.size ≤ q → lwA s q := fun _ h => h
  have hbA : ¬ lwA s b := Nat.not_le.mpr hbl
  obtain ⟨nb, nr, hR⟩ := hR
  obtain ⟨hb6, hr2, hri, hmi, hRWs, hRWm⟩ := RR_h hR
  refine lv_aload_n hx hb dL_law_1000 rfl (lv_at hl 3 rfl) ?_
  refine lv_aload_n hx hb dL_law_1001 rfl (lv_at hl 4 rfl) ?_
  refine lv_iload hx hb dL_law_1002 (lv_at hl 0 rfl) ?_
  refine lv_iconst (v := nI 1) hx hb dL_law_1004 (by decide) ?_
  refine lv_iadd hx hb dL_law_1005 ?_
  refine tp_i (nI_add i 1) ?_
  refine ws_ld hx hb hX hbl hbA hw (j := i + 1) (by omega) hL dL_law_1006 ?_
  refine lv_aload_n hx hb dL_law_1007 rfl (lv_at hl 1 rfl) ?_
  refine lh_I (w1 := []) (wd := wh ca ad oa) (S := (S, f)) (w2 := wq ca md M) (As := [.ref (ad 0), .int (xs (i + 1)), .ref oa]) (rest := []) (kL_lent l htr dC dI ca ad oa S f (xs (i + 1)) nb nr hb6 hr2 hri) ⟨hx, hb, hml, hown, hts⟩ ⟨rfl, rfl, Nat.le_of_ble_eq_true rfl, Nat.le_of_ble_eq_true rfl⟩ wL_lent wd_0 (by decide) (show (parseMethodDescriptor yL_lent.desc).map (fun d => d.parameters.length) = some 3 from by decide +kernel) wd_543 wd_544 hK hZ (wl_h hw) hA hl.1 rfl (Nat.le_of_ble_eq_true rfl) dL_law_1008 ⟨show cells + 1 ≤ 601024 by omega, show slots + 6 ≤ 7293033 by omega⟩ (fun r_1 X_1 H locs hp_1 hw => ?_)
  obtain ⟨S_1, f_1⟩ := X_1
  have hw := wl_hb hw
  refine lv_istore (lv' := [(5, .int r_1), (4, .int (nI i)), (3, .ref oa), (2, .ref (md 0)), (1, .ref (ad 0)), (0, .ref b)]) hx hb dL_law_1011 hl (by decide) rfl (fun ls hl => ?_)
  refine lv_aload_n hx hb dL_law_1013 rfl (lv_at hl 3 rfl) ?_
  refine lv_aload_n hx hb dL_law_1014 rfl (lv_at hl 5 rfl) ?_
  refine lv_iload hx hb dL_law_1015 (lv_at hl 1 rfl) ?_
  refine lv_iconst (v := nI 1) hx hb dL_law_1017 (by decide) ?_
  refine lv_iadd hx hb dL_law_1018 ?_
  refine tp_i (nI_add i 1) ?_
  refine ws_ld hx hb hX hbl hbA hw (j := i + 1) (by omega) hL dL_law_1019 ?_
  refine lx_L (w1 := wc ca ad S_1 ++ wO ca oa f_1) (wd := wq ca md) (S := M) (w2 := []) (As := [.int (xs (i + 1))]) (rest := []) (kX6_lent l dC dI ca md M (xs (i + 1)) nb nr hb6 hr2 hmi) ⟨hx, hb, hml, hown, hts⟩ (cwV 1 hts (wa_gV wd_765 wd_766 wd_767 wd_8 wd_768) rfl rfl rfl (by decide +kernel) ⟨Nat.le_of_ble_eq_true rfl, Nat.le_of_ble_eq_true rfl⟩) hK (wl_m hw) hA 0 rfl rfl rfl rfl hl.1 rfl (Nat.le_of_ble_eq_true rfl) dL_law_1020 ⟨show cells + 1 + 0 ≤ 601024 by omega, show slots + 6 + 0 ≤ 7293033 by omega⟩ (fun r_2 M_2 H locs hp_2 hw => ?_)
  have hw := wl_mb hw
  refine lv_lstore (lv' := [(6, .long r_2), (5, .int r_1), (4, .int (nI i)), (3, .ref oa), (2, .ref (md 0)), (1, .ref (ad 0)), (0, .ref b)]) hx hb dL_law_1023 hl (by decide) rfl (fun ls hl => ?_)
  refine lv_aload_n hx hb dL_law_1025 rfl (lv_at hl 4 rfl) ?_
  refine lx_I (w1 := wc ca ad S_1 ++ wO ca oa f_1) (wd := wq ca md) (S := M_2) (w2 := []) (As := []) (rest := []) (kX6_thrown l dC dI ca md M_2  ) ⟨hx, hb, hml, hown, hts⟩ (cwV 0 hts (wa_gV wd_647 wd_648 wd_649 wd_8 wd_650) rfl rfl rfl (by decide +kernel) ⟨Nat.le_of_ble_eq_true rfl, Nat.le_of_ble_eq_true rfl⟩) hK (wl_m hw) hA 0 rfl rfl rfl rfl hl.1 rfl (Nat.le_of_ble_eq_true rfl) dL_law_1026 ⟨show cells + 1 + 0 ≤ 601024 by omega, show slots + 6 + 0 ≤ 7293033 by omega⟩ (fun r_3 M_3 H locs hp_3 hw => ?_)
  have hw := wl_mb hw
  obtain ⟨e8, e7, hR2⟩ := ls_lent hR hp_1 hp_2
  obtain ⟨e6, e5⟩ := hp_3
  rw [e5] at hw
  refine lv_iload hx hb dL_law_1029 (lv_at hl 1 rfl) ?_
  refine lv_icmp_eq (tgt := 1036) hx hb dL_law_1031 (by decide) (fun _ => ?_) (fun h9 => absurd (e6.trans e8) h9)
  refine lv_iload hx hb dL_law_1036 (lv_at hl 1 rfl) ?_
  refine lv_if_ne (tgt := 1052) hx hb dL_law_1038 (by decide) (fun _ => ?_) (fun c9 => ?_)
  · skip
    refine lv_goto (tgt := 1184) hx hb dL_law_1052 (by decide) ?_
    exact kk _ _ _ _ _ _ hR2 hw (lv_sub hl [2, 3, 4, 5, 6] rfl)
  · skip
    refine lv_aload_n hx hb dL_law_1041 rfl (lv_at hl 3 rfl) ?_
    refine lv_iconst (v := nI 0) hx hb dL_law_1042 (by decide) ?_
    refine wo_lald hx hb hK hw 52 1 rfl rfl 0 rfl (by decide) (by decide) dL_law_1043 ?_
    refine lv_lload hx hb dL_law_1044 (lv_at hl 0 rfl) ?_
    refine lc_eq (tgt := 1052) hx hb dL_law_1046 dL_law_1047 (by decide) (fun _ => ?_) (fun h9 => absurd (e7 (c9.trans nI_0.symm)) h9)
    refine lv_goto (tgt := 1184) hx hb dL_law_1052 (by decide) ?_
    exact kk _ _ _ _ _ _ hR2 hw (lv_sub hl [2, 3, 4, 5, 6] rfl)

set_option maxHeartbeats 4000000 in
set_option maxRecDepth 100000 in
theorem lc_waits {p : Program} {l : Launch} {e : Env} {s : State} {m : MethodId} {below : List Frame} {meth : Method} {c : Code} {dC : Nat → ClassId} {dI : Nat → Nat → Nat} {ca : Nat → ClassId} {ad md : Nat → Nat} {oa b L i cells slots : Nat} {xs : Nat → Int32} {S M : sSt} {f : Nat → Int64} {H : Heap} {locs : List Loc} {ls : Array Slot} {Q : State → Prop} (C0 : LC p l s m meth c dC dI ca b L xs) (hi : i + 7 ≤ L) (hR : RE S M) (hc : cells + 1 ≤ 601024) (hs : slots + 6 ≤ 7293033) (hw : wo_w (dC, dI) vwCl (lwA s) s.heap (wL ca ad md oa S M f) H locs) (hl : lv_has ls 8 (lwl b oa i ad md)) (kk : lw_N p l e s m below meth c dC dI ca ad md oa b i cells slots Q) : W p l e room_1 s m #[Value.ref b] below meth c H locs cells slots Q (F0 m 1055 ls []) := by
  obtain ⟨hx, hb, hr, hml, hown, hts, hX, hbl, hlocks, hK, hZ, hL, htr⟩ := C0
  have hA : ∀ q : Nat, s.heap.size ≤ q → lwA s q := fun _ h => h
  have hbA : ¬ lwA s b := Nat.not_le.mpr hbl
  obtain ⟨nb, nr, hR⟩ := hR
  obtain ⟨hb6, hr2, hri, hmi, hRWs, hRWm⟩ := RR_h hR
  refine lv_aload_n hx hb dL_law_1055 rfl (lv_at hl 3 rfl) ?_
  refine lv_aload_n hx hb dL_law_1056 rfl (lv_at hl 4 rfl) ?_
  refine lv_iload hx hb dL_law_1057 (lv_at hl 0 rfl) ?_
  refine lv_iconst (v := nI 1) hx hb dL_law_1059 (by decide) ?_
  refine lv_iadd hx hb dL_law_1060 ?_
  refine tp_i (nI_add i 1) ?_
  refine ws_ld hx hb hX hbl hbA hw (j := i + 1) (by omega) hL dL_law_1061 ?_
  refine lv_aload_n hx hb dL_law_1062 rfl (lv_at hl 4 rfl) ?_
  refine lv_iload hx hb dL_law_1063 (lv_at hl 0 rfl) ?_
  refine lv_iconst (v := nI 2) hx hb dL_law_1065 (by decide) ?_
  refine lv_iadd hx hb dL_law_1066 ?_
  refine tp_i (nI_add i 2) ?_
  refine ws_ld hx hb hX hbl hbA hw (j := i + 2) (by omega) hL dL_law_1067 ?_
  refine lv_aload_n hx hb dL_law_1068 rfl (lv_at hl 1 rfl) ?_
  refine lh_I (w1 := []) (wd := wh ca ad oa) (S := (S, f)) (w2 := wq ca md M) (As := [.ref (ad 0), .int (xs (i + 1)), .int (xs (i + 2)), .ref oa]) (rest := []) (kL_waits l htr dC dI ca ad oa S f (xs (i + 1)) (xs (i + 2)) nb nr hb6 hr2 hri) ⟨hx, hb, hml, hown, hts⟩ ⟨rfl, rfl, Nat.le_of_ble_eq_true rfl, Nat.le_of_ble_eq_true rfl⟩ wL_waits wd_0 (by decide) (show (parseMethodDescriptor yL_waits.desc).map (fun d => d.parameters.length) = some 4 from by decide +kernel) wd_551 wd_552 hK hZ (wl_h hw) hA hl.1 rfl (Nat.le_of_ble_eq_true rfl) dL_law_1069 ⟨show cells + 1 ≤ 601024 by omega, show slots + 6 ≤ 7293033 by omega⟩ (fun r_1 X_1 H locs hp_1 hw => ?_)
  obtain ⟨S_1, f_1⟩ := X_1
  have hw := wl_hb hw
  refine lv_istore (lv' := [(5, .int r_1), (4, .int (nI i)), (3, .ref oa), (2, .ref (md 0)), (1, .ref (ad 0)), (0, .ref b)]) hx hb dL_law_1072 hl (by decide) rfl (fun ls hl => ?_)
  refine lv_aload_n hx hb dL_law_1074 rfl (lv_at hl 3 rfl) ?_
  refine lv_aload_n hx hb dL_law_1075 rfl (lv_at hl 5 rfl) ?_
  refine lv_iload hx hb dL_law_1076 (lv_at hl 1 rfl) ?_
  refine lv_iconst (v := nI 1) hx hb dL_law_1078 (by decide) ?_
  refine lv_iadd hx hb dL_law_1079 ?_
  refine tp_i (nI_add i 1) ?_
  refine ws_ld hx hb hX hbl hbA hw (j := i + 1) (by omega) hL dL_law_1080 ?_
  refine lv_aload_n hx hb dL_law_1081 rfl (lv_at hl 5 rfl) ?_
  refine lv_iload hx hb dL_law_1082 (lv_at hl 1 rfl) ?_
  refine lv_iconst (v := nI 2) hx hb dL_law_1084 (by decide) ?_
  refine lv_iadd hx hb dL_law_1085 ?_
  refine tp_i (nI_add i 2) ?_
  refine ws_ld hx hb hX hbl hbA hw (j := i + 2) (by omega) hL dL_law_1086 ?_
  refine lx_L (w1 := wc ca ad S_1 ++ wO ca oa f_1) (wd := wq ca md) (S := M) (w2 := []) (As := [.int (xs (i + 1)), .int (xs (i + 2))]) (rest := []) (kX6_waits l dC dI ca md M (xs (i + 1)) (xs (i + 2)) nb nr hb6 hr2 hmi) ⟨hx, hb, hml, hown, hts⟩ (cwV 2 hts (wa_gV wd_769 wd_770 wd_771 wd_8 wd_772) rfl rfl rfl (by decide +kernel) ⟨Nat.le_of_ble_eq_true rfl, Nat.le_of_ble_eq_true rfl⟩) hK (wl_m hw) hA 0 rfl rfl rfl rfl hl.1 rfl (Nat.le_of_ble_eq_true rfl) dL_law_1087 ⟨show cells + 1 + 0 ≤ 601024 by omega, show slots + 6 + 0 ≤ 7293033 by omega⟩ (fun r_2 M_2 H locs hp_2 hw => ?_)
  have hw := wl_mb hw
  refine lv_lstore (lv' := [(6, .long r_2), (5, .int r_1), (4, .int (nI i)), (3, .ref oa), (2, .ref (md 0)), (1, .ref (ad 0)), (0, .ref b)]) hx hb dL_law_1090 hl (by decide) rfl (fun ls hl => ?_)
  refine lv_aload_n hx hb dL_law_1092 rfl (lv_at hl 4 rfl) ?_
  refine lx_I (w1 := wc ca ad S_1 ++ wO ca oa f_1) (wd := wq ca md) (S := M_2) (w2 := []) (As := []) (rest := []) (kX6_thrown l dC dI ca md M_2  ) ⟨hx, hb, hml, hown, hts⟩ (cwV 0 hts (wa_gV wd_647 wd_648 wd_649 wd_8 wd_650) rfl rfl rfl (by decide +kernel) ⟨Nat.le_of_ble_eq_true rfl, Nat.le_of_ble_eq_true rfl⟩) hK (wl_m hw) hA 0 rfl rfl rfl rfl hl.1 rfl (Nat.le_of_ble_eq_true rfl) dL_law_1093 ⟨show cells + 1 + 0 ≤ 601024 by omega, show slots + 6 + 0 ≤ 7293033 by omega⟩ (fun r_3 M_3 H locs hp_3 hw => ?_)
  have hw := wl_mb hw
  obtain ⟨e8, e7, hR2⟩ := ls_waits hR hp_1 hp_2
  obtain ⟨e6, e5⟩ := hp_3
  rw [e5] at hw
  refine lv_iload hx hb dL_law_1096 (lv_at hl 1 rfl) ?_
  refine lv_icmp_eq (tgt := 1103) hx hb dL_law_1098 (by decide) (fun _ => ?_) (fun h9 => absurd (e6.trans e8) h9)
  refine lv_iload hx hb dL_law_1103 (lv_at hl 1 rfl) ?_
  refine lv_if_ne (tgt := 1119) hx hb dL_law_1105 (by decide) (fun _ => ?_) (fun c9 => ?_)
  · skip
    refine lv_goto (tgt := 1184) hx hb dL_law_1119 (by decide) ?_
    exact kk _ _ _ _ _ _ hR2 hw (lv_sub hl [2, 3, 4, 5, 6] rfl)
  · skip
    refine lv_aload_n hx hb dL_law_1108 rfl (lv_at hl 3 rfl) ?_
    refine lv_iconst (v := nI 0) hx hb dL_law_1109 (by decide) ?_
    refine wo_lald hx hb hK hw 52 1 rfl rfl 0 rfl (by decide) (by decide) dL_law_1110 ?_
    refine lv_lload hx hb dL_law_1111 (lv_at hl 0 rfl) ?_
    refine lc_eq (tgt := 1119) hx hb dL_law_1113 dL_law_1114 (by decide) (fun _ => ?_) (fun h9 => absurd (e7 (c9.trans nI_0.symm)) h9)
    refine lv_goto (tgt := 1184) hx hb dL_law_1119 (by decide) ?_
    exact kk _ _ _ _ _ _ hR2 hw (lv_sub hl [2, 3, 4, 5, 6] rfl)

set_option maxHeartbeats 4000000 in
set_option maxRecDepth 100000 in
theorem lc_person {p : Program} {l : Launch} {e : Env} {s : State} {m : MethodId} {below : List Frame} {meth : Method} {c : Code} {dC : Nat → ClassId} {dI : Nat → Nat → Nat} {ca : Nat → ClassId} {ad md : Nat → Nat} {oa b L i cells slots : Nat} {xs : Nat → Int32} {S M : sSt} {f : Nat → Int64} {H : Heap} {locs : List Loc} {ls : Array Slot} {Q : State → Prop} (C0 : LC p l s m meth c dC dI ca b L xs) (hi : i + 7 ≤ L) (hR : RE S M) (hc : cells + 1 ≤ 601024) (hs : slots + 6 ≤ 7293033) (hw : wo_w (dC, dI) vwCl (lwA s) s.heap (wL ca ad md oa S M f) H locs) (hl : lv_has ls 8 (lwl b oa i ad md)) (kk : lw_N p l e s m below meth c dC dI ca ad md oa b i cells slots Q) : W p l e room_1 s m #[Value.ref b] below meth c H locs cells slots Q (F0 m 1122 ls []) := by
  obtain ⟨hx, hb, hr, hml, hown, hts, hX, hbl, hlocks, hK, hZ, hL, htr⟩ := C0
  have hA : ∀ q : Nat, s.heap.size ≤ q → lwA s q := fun _ h => h
  have hbA : ¬ lwA s b := Nat.not_le.mpr hbl
  obtain ⟨nb, nr, hR⟩ := hR
  obtain ⟨hb6, hr2, hri, hmi, hRWs, hRWm⟩ := RR_h hR
  refine lv_aload_n hx hb dL_law_1122 rfl (lv_at hl 3 rfl) ?_
  refine lv_aload_n hx hb dL_law_1123 rfl (lv_at hl 4 rfl) ?_
  refine lv_iload hx hb dL_law_1124 (lv_at hl 0 rfl) ?_
  refine lv_iconst (v := nI 1) hx hb dL_law_1126 (by decide) ?_
  refine lv_iadd hx hb dL_law_1127 ?_
  refine tp_i (nI_add i 1) ?_
  refine ws_ld hx hb hX hbl hbA hw (j := i + 1) (by omega) hL dL_law_1128 ?_
  refine lv_aload_n hx hb dL_law_1129 rfl (lv_at hl 4 rfl) ?_
  refine lv_iload hx hb dL_law_1130 (lv_at hl 0 rfl) ?_
  refine lv_iconst (v := nI 2) hx hb dL_law_1132 (by decide) ?_
  refine lv_iadd hx hb dL_law_1133 ?_
  refine tp_i (nI_add i 2) ?_
  refine ws_ld hx hb hX hbl hbA hw (j := i + 2) (by omega) hL dL_law_1134 ?_
  refine lx_I (w1 := []) (wd := wc ca ad) (S := S) (w2 := wO ca oa f ++ wq ca md M) (As := [.int (xs (i + 1)), .int (xs (i + 2))]) (rest := []) (kX5_person l dC dI ca ad S (xs (i + 1)) (xs (i + 2)) ) ⟨hx, hb, hml, hown, hts⟩ (cwV 2 hts (wa_gV wd_353 wd_354 wd_355 wd_1 wd_356) rfl rfl rfl (by decide +kernel) ⟨Nat.le_of_ble_eq_true rfl, Nat.le_of_ble_eq_true rfl⟩) hK (wl_x hw) hA 0 rfl rfl rfl rfl hl.1 rfl (Nat.le_of_ble_eq_true rfl) dL_law_1135 ⟨show cells + 0 ≤ 601024 by omega, show slots + 0 ≤ 7293033 by omega⟩ (fun r_1 S_1 H locs hp_1 hw => ?_)
  have hw := wl_xb hw
  refine lv_aload_n hx hb dL_law_1138 rfl (lv_at hl 2 rfl) ?_
  refine lv_aload_n hx hb dL_law_1139 rfl (lv_at hl 4 rfl) ?_
  refine lv_iload hx hb dL_law_1140 (lv_at hl 0 rfl) ?_
  refine lv_iconst (v := nI 1) hx hb dL_law_1142 (by decide) ?_
  refine lv_iadd hx hb dL_law_1143 ?_
  refine tp_i (nI_add i 1) ?_
  refine ws_ld hx hb hX hbl hbA hw (j := i + 1) (by omega) hL dL_law_1144 ?_
  refine lv_aload_n hx hb dL_law_1145 rfl (lv_at hl 4 rfl) ?_
  refine lv_iload hx hb dL_law_1146 (lv_at hl 0 rfl) ?_
  refine lv_iconst (v := nI 2) hx hb dL_law_1148 (by decide) ?_
  refine lv_iadd hx hb dL_law_1149 ?_
  refine tp_i (nI_add i 2) ?_
  refine ws_ld hx hb hX hbl hbA hw (j := i + 2) (by omega) hL dL_law_1150 ?_
  refine lx_I (w1 := wc ca ad S_1 ++ wO ca oa f) (wd := wq ca md) (S := M) (w2 := []) (As := [.int (xs (i + 1)), .int (xs (i + 2))]) (rest := [.int r_1]) (kX6_person l dC dI ca md M (xs (i + 1)) (xs (i + 2)) ) ⟨hx, hb, hml, hown, hts⟩ (cwV 2 hts (wa_gV wd_773 wd_774 wd_775 wd_8 wd_776) rfl rfl rfl (by decide +kernel) ⟨Nat.le_of_ble_eq_true rfl, Nat.le_of_ble_eq_true rfl⟩) hK (wl_m hw) hA 0 rfl rfl rfl rfl hl.1 rfl (Nat.le_of_ble_eq_true rfl) dL_law_1151 ⟨show cells + 0 ≤ 601024 by omega, show slots + 0 ≤ 7293033 by omega⟩ (fun r_2 M_2 H locs hp_2 hw => ?_)
  have hw := wl_mb hw
  obtain ⟨e9, hR2⟩ := ls_person hR hp_1 hp_2
  refine lv_icmp_eq (tgt := 1184) hx hb dL_law_1154 (by decide) (fun _ => ?_) (fun h9 => absurd e9 h9)
  exact W.widen (Nat.le_add_right _ _) (Nat.le_add_right _ _) (kk _ _ _ _ _ _ hR2 hw hl)

set_option maxHeartbeats 4000000 in
set_option maxRecDepth 100000 in
theorem lc_total {p : Program} {l : Launch} {e : Env} {s : State} {m : MethodId} {below : List Frame} {meth : Method} {c : Code} {dC : Nat → ClassId} {dI : Nat → Nat → Nat} {ca : Nat → ClassId} {ad md : Nat → Nat} {oa b L i cells slots : Nat} {xs : Nat → Int32} {S M : sSt} {f : Nat → Int64} {H : Heap} {locs : List Loc} {ls : Array Slot} {Q : State → Prop} (C0 : LC p l s m meth c dC dI ca b L xs) (hi : i + 7 ≤ L) (hR : RE S M) (hc : cells + 1 ≤ 601024) (hs : slots + 6 ≤ 7293033) (hw : wo_w (dC, dI) vwCl (lwA s) s.heap (wL ca ad md oa S M f) H locs) (hl : lv_has ls 8 (lwl b oa i ad md)) (kk : lw_N p l e s m below meth c dC dI ca ad md oa b i cells slots Q) : W p l e room_1 s m #[Value.ref b] below meth c H locs cells slots Q (F0 m 1159 ls []) := by
  obtain ⟨hx, hb, hr, hml, hown, hts, hX, hbl, hlocks, hK, hZ, hL, htr⟩ := C0
  have hA : ∀ q : Nat, s.heap.size ≤ q → lwA s q := fun _ h => h
  have hbA : ¬ lwA s b := Nat.not_le.mpr hbl
  obtain ⟨nb, nr, hR⟩ := hR
  obtain ⟨hb6, hr2, hri, hmi, hRWs, hRWm⟩ := RR_h hR
  refine lv_aload_n hx hb dL_law_1159 rfl (lv_at hl 3 rfl) ?_
  refine lv_aload_n hx hb dL_law_1160 rfl (lv_at hl 4 rfl) ?_
  refine lv_iload hx hb dL_law_1161 (lv_at hl 0 rfl) ?_
  refine lv_iconst (v := nI 1) hx hb dL_law_1163 (by decide) ?_
  refine lv_iadd hx hb dL_law_1164 ?_
  refine tp_i (nI_add i 1) ?_
  refine ws_ld hx hb hX hbl hbA hw (j := i + 1) (by omega) hL dL_law_1165 ?_
  refine lx_I (w1 := []) (wd := wc ca ad) (S := S) (w2 := wO ca oa f ++ wq ca md M) (As := [.int (xs (i + 1))]) (rest := []) (kX5_total l dC dI ca ad S (xs (i + 1)) ) ⟨hx, hb, hml, hown, hts⟩ (cwV 1 hts (wa_gV wd_363 wd_364 wd_365 wd_1 wd_366) rfl rfl rfl (by decide +kernel) ⟨Nat.le_of_ble_eq_true rfl, Nat.le_of_ble_eq_true rfl⟩) hK (wl_x hw) hA 0 rfl rfl rfl rfl hl.1 rfl (Nat.le_of_ble_eq_true rfl) dL_law_1166 ⟨show cells + 0 ≤ 601024 by omega, show slots + 0 ≤ 7293033 by omega⟩ (fun r_1 S_1 H locs hp_1 hw => ?_)
  have hw := wl_xb hw
  refine lv_aload_n hx hb dL_law_1169 rfl (lv_at hl 2 rfl) ?_
  refine lv_aload_n hx hb dL_law_1170 rfl (lv_at hl 4 rfl) ?_
  refine lv_iload hx hb dL_law_1171 (lv_at hl 0 rfl) ?_
  refine lv_iconst (v := nI 1) hx hb dL_law_1173 (by decide) ?_
  refine lv_iadd hx hb dL_law_1174 ?_
  refine tp_i (nI_add i 1) ?_
  refine ws_ld hx hb hX hbl hbA hw (j := i + 1) (by omega) hL dL_law_1175 ?_
  refine lx_I (w1 := wc ca ad S_1 ++ wO ca oa f) (wd := wq ca md) (S := M) (w2 := []) (As := [.int (xs (i + 1))]) (rest := [.int r_1]) (kX6_total l dC dI ca md M (xs (i + 1)) ) ⟨hx, hb, hml, hown, hts⟩ (cwV 1 hts (wa_gV wd_777 wd_778 wd_779 wd_8 wd_780) rfl rfl rfl (by decide +kernel) ⟨Nat.le_of_ble_eq_true rfl, Nat.le_of_ble_eq_true rfl⟩) hK (wl_m hw) hA 0 rfl rfl rfl rfl hl.1 rfl (Nat.le_of_ble_eq_true rfl) dL_law_1176 ⟨show cells + 0 ≤ 601024 by omega, show slots + 0 ≤ 7293033 by omega⟩ (fun r_2 M_2 H locs hp_2 hw => ?_)
  have hw := wl_mb hw
  obtain ⟨e9, hR2⟩ := ls_total hR hp_1 hp_2
  refine lv_icmp_eq (tgt := 1184) hx hb dL_law_1179 (by decide) (fun _ => ?_) (fun h9 => absurd e9 h9)
  exact W.widen (Nat.le_add_right _ _) (Nat.le_add_right _ _) (kk _ _ _ _ _ _ hR2 hw hl)
