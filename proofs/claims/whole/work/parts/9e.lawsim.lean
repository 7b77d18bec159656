/-! the calls of the law, side by side: equal answers, and what holds before holds again -/
def RR (nb nr : Nat) (S M : sSt) : Prop := JJ S M nb nr (fun _ => 0) ∧ sv S
def RE (S M : sSt) : Prop := ∃ nb nr, RR nb nr S M
theorem RR_h {nb nr : Nat} {S M : sSt} (h : RR nb nr S M) : nb ≤ 6 ∧ nr ≤ 200 ∧ RI nb nr S ∧ MI nb nr M ∧ RW nb nr S ∧ MRW nb nr M := ⟨h.1.1.1, h.1.1.2.1, JJ_RI h.1⟩
theorem sv_eq {S S' : sSt} (h : sv S) (e : S'.1 8 = S.1 8) : sv S' := fun p hp => by
  rw [e]; exact h p hp
theorem RE_t0 {nb nr : Nat} {S M : sSt} (h : RR nb nr S M) : RE S (mt0 M) := ⟨nb, nr, JJ_t0 h.1, h.2⟩
theorem ls_weigh {nb nr : Nat} {S M S2 M2 : sSt} {r r2 : Int32} {pp : Int32} {ww : Int64} (h : RR nb nr S M) (hx : r = bI (wgOk S pp ww) ∧ S2 = (if wgOk S pp ww = true then sL S 6 pp.toNatClampNeg ww else S)) (hm : r2 = bI (mwgOk (mt0 M) pp ww) ∧ M2 = (if mwgOk (mt0 M) pp ww = true then sL (mt0 M) 5 pp.toNatClampNeg ww else (mt0 M))) : r = r2 ∧ RE S2 M2 := by
  obtain ⟨rfl, rfl⟩ := hx
  obtain ⟨rfl, rfl⟩ := hm
  have h0 := sim_weigh (JJ_t0 h.1) pp ww
  refine ⟨by rw [h0.1], nb, nr, h0.2, sv_eq h.2 ?_⟩
  split <;> rfl
theorem ls_patient {nb nr : Nat} {S M S2 M2 : sSt} {r r2 : Int32} {pp : Int32} {b0 : Bool} (h : RR nb nr S M) (hx : r = bI (ptOk S pp b0) ∧ S2 = (if ptOk S pp b0 = true then sI S 7 pp.toNatClampNeg (bI b0) else S)) (hm : r2 = bI (mptOk (mt0 M) pp b0) ∧ M2 = (if mptOk (mt0 M) pp b0 = true then sI (mt0 M) 7 pp.toNatClampNeg (bI b0) else (mt0 M))) : r = r2 ∧ RE S2 M2 := by
  obtain ⟨rfl, rfl⟩ := hx
  obtain ⟨rfl, rfl⟩ := hm
  have h0 := sim_patient (JJ_t0 h.1) pp b0
  refine ⟨by rw [h0.1], nb, nr, h0.2, sv_eq h.2 ?_⟩
  split
  · exact sI_q (by omega)
  · rfl
theorem ls_take {nb nr : Nat} {S M S2 M2 : sSt} {r r2 : Int32} {bb pp : Int32} {vv : Int64} (h : RR nb nr S M) (hx : r = (tkF S bb pp vv).1 ∧ S2 = (tkF S bb pp vv).2) (hm : r2 = (mtkF (mt0 M) bb pp vv).1 ∧ M2 = (mtkF (mt0 M) bb pp vv).2) : r = r2 ∧ RE S2 M2 := by
  obtain ⟨rfl, rfl⟩ := hx
  obtain ⟨rfl, rfl⟩ := hm
  have h0 := sim_take (JJ_t0 h.1) bb pp vv
  exact ⟨h0.1, nb, nr, h0.2.1, sv_eq h.2 h0.2.2⟩
theorem ls_lend {nb nr : Nat} {S M S2 M2 : sSt} {r r2 : Int32} {bb sd fr to : Int32} {vv : Int64} (h : RR nb nr S M) (hx : r = (ldF S nr bb sd fr to vv).1 ∧ S2 = (ldF S nr bb sd fr to vv).2) (hm : r2 = (mldF (mt0 M) nr bb sd fr to vv).1 ∧ M2 = (mldF (mt0 M) nr bb sd fr to vv).2) : r = r2 ∧ RE S2 M2 := by
  obtain ⟨rfl, rfl⟩ := hx
  obtain ⟨rfl, rfl⟩ := hm
  obtain ⟨h0, ⟨nr', h1⟩, h2⟩ := sim_lend (JJ_t0 h.1) bb sd fr to vv
  exact ⟨h0, nb, nr', h1, sv_eq h.2 h2⟩
theorem ls_ask {nb nr : Nat} {S M S2 M2 : sSt} {r r2 : Int32} {bb sd pp : Int32} {vv : Int64} (h : RR nb nr S M) (hx : r = (akF S nr bb sd pp vv).1 ∧ S2 = (akF S nr bb sd pp vv).2) (hm : r2 = (makF (mt0 M) nr bb sd pp vv).1 ∧ M2 = (makF (mt0 M) nr bb sd pp vv).2) : r = r2 ∧ RE S2 M2 := by
  obtain ⟨rfl, rfl⟩ := hx
  obtain ⟨rfl, rfl⟩ := hm
  obtain ⟨h0, ⟨nr', h1⟩, h2⟩ := sim_ask (JJ_t0 h.1) bb sd pp vv
  exact ⟨h0, nb, nr', h1, sv_eq h.2 h2⟩
theorem ls_deliver {nb nr : Nat} {S M S2 M2 : sSt} {r r2 : Int32} {rr : Int32} (h : RR nb nr S M) (hx : r = (dlF S rr).1 ∧ S2 = (dlF S rr).2) (hm : r2 = (mdlF (mt0 M) rr).1 ∧ M2 = (mdlF (mt0 M) rr).2) : r = r2 ∧ RE S2 M2 := by
  obtain ⟨rfl, rfl⟩ := hx
  obtain ⟨rfl, rfl⟩ := hm
  have h0 := sim_deliver (JJ_t0 h.1) rr
  exact ⟨h0.1, nb, nr, h0.2.1, sv_eq h.2 h0.2.2⟩
theorem ls_lose {nb nr : Nat} {S M S2 M2 : sSt} {r r2 : Int32} {rr : Int32} (h : RR nb nr S M) (hx : r = bI (lsOk S rr) ∧ S2 = (if lsOk S rr = true then sI S 30 rr.toNatClampNeg (nI 2) else S)) (hm : r2 = bI (mlsOk (mt0 M) rr) ∧ M2 = (if mlsOk (mt0 M) rr = true then sI (mt0 M) 17 rr.toNatClampNeg (nI 2) else (mt0 M))) : r = r2 ∧ RE S2 M2 := by
  obtain ⟨rfl, rfl⟩ := hx
  obtain ⟨rfl, rfl⟩ := hm
  have h0 := sim_lose (JJ_t0 h.1) rr
  refine ⟨by rw [h0.1], nb, nr, h0.2, sv_eq h.2 ?_⟩
  split
  · exact sI_q (by omega)
  · rfl
theorem ls_endH {nb nr : Nat} {S M : sSt} (h : RR nb nr S M) (pp : Int32) : ∀ p, pp = nI p → p < 6 → menH (mt0 M) nb nr p := (sim_end (JJ_t0 h.1) h.2 pp).2.2.2
theorem ls_end {nb nr : Nat} {S M S2 M2 : sSt} {r r2 : Int32} {pp : Int32} (h : RR nb nr S M) (hx : r = bI (wl S pp) ∧ S2 = enF S nb nr pp) (hm : r2 = bI (mwl (mt0 M) pp) ∧ M2 = menF (mt0 M) nb nr pp) : r = r2 ∧ RE S2 M2 := by
  obtain ⟨rfl, rfl⟩ := hx
  obtain ⟨rfl, rfl⟩ := hm
  have h0 := sim_end (JJ_t0 h.1) h.2 pp
  exact ⟨by rw [h0.1], nb, nr, h0.2.1, h0.2.2.1⟩
theorem ls_vouchH {nb nr : Nat} {S M : sSt} (h : RR nb nr S M) (pp ee : Int32) : ∀ p e, pp = nI p → ee = nI e → p < 6 → e < 6 → ¬ (mt0 M).1 6 e = 0 → mtl (mvcT (mt0 M) p e) e = true → mrecH (mvcT (mt0 M) p e) e nb nr := fun p e _ _ hp he h6 ht =>
  vouch_H (JJ_t0 h.1) he hp (by rw [((JJ_t0 h.1).2.2.1 e he).2.2.1]; exact h6) ht
theorem ls_vouch {nb nr : Nat} {S M S2 M2 : sSt} {r r2 : Int32} {pp ee : Int32} (h : RR nb nr S M) (hx : r = (vcF S nb nr pp ee).1 ∧ S2 = (vcF S nb nr pp ee).2) (hm : r2 = (mvcF (mt0 M) nb nr pp ee).1 ∧ M2 = (mvcF (mt0 M) nb nr pp ee).2) : r = r2 ∧ RE S2 M2 := by
  obtain ⟨rfl, rfl⟩ := hx
  obtain ⟨rfl, rfl⟩ := hm
  have h0 := sim_vouch (JJ_t0 h.1) h.2 pp ee
  exact ⟨h0.1, nb, nr, h0.2.1, h0.2.2⟩
theorem ls_row {nb nr : Nat} {S M S2 M2 : sSt} {r r2 : Int32} {rr wh : Int32} (h : RR nb nr S M) (hx : r = rwF S rr wh ∧ S2 = S) (hm : r2 = mrwF (mt0 M) rr wh ∧ M2 = mt0 M) : r = r2 ∧ RE S2 M2 := by
  obtain ⟨rfl, rfl⟩ := hx
  obtain ⟨rfl, rfl⟩ := hm
  exact ⟨sim_row (JJ_t0 h.1) rr wh, RE_t0 h⟩
theorem ls_person {nb nr : Nat} {S M S2 M2 : sSt} {r r2 : Int32} {pp wh : Int32} (h : RR nb nr S M) (hx : r = psF S pp wh ∧ S2 = S) (hm : r2 = mpsF (mt0 M) pp wh ∧ M2 = mt0 M) : r = r2 ∧ RE S2 M2 := by
  obtain ⟨rfl, rfl⟩ := hx
  obtain ⟨rfl, rfl⟩ := hm
  exact ⟨sim_person (JJ_t0 h.1) pp wh, RE_t0 h⟩
theorem ls_total {nb nr : Nat} {S M S2 M2 : sSt} {r r2 : Int32} {wh : Int32} (h : RR nb nr S M) (hx : r = ttF S wh ∧ S2 = S) (hm : r2 = mttF (mt0 M) wh ∧ M2 = mt0 M) : r = r2 ∧ RE S2 M2 := by
  obtain ⟨rfl, rfl⟩ := hx
  obtain ⟨rfl, rfl⟩ := hm
  exact ⟨sim_total (JJ_t0 h.1) wh, RE_t0 h⟩
theorem up_0 (f : Nat → Int64) (x : Int64) : vp_updL f 0 x 0 = x := by
  unfold vp_updL
  simp
theorem ls_gen {nb nr : Nat} {S M M2 : sSt} {f : Nat → Int64} {ok g : Bool} {val v9 v : Int64} {r : Int32} {X : sSt × (Nat → Int64)} (h : RR nb nr S M) (e : ok = g) (ev : ok = true → val = v9) (hx : (ok = true ∧ r = nI 0 ∧ X = (S, vp_updL f 0 val)) ∨ (ok = false ∧ r = nI 1 ∧ X = (S, f))) (hm : v = (if g = true then v9 else 0) ∧ M2 = mthr M g) : M2.1 0 0 = r ∧ (r = nI 0 → X.2 0 = v) ∧ RE X.1 M2 := by
  subst e
  obtain ⟨hv, hM⟩ := hm
  subst hM
  rcases hx with ⟨h1, rfl, rfl⟩ | ⟨h1, rfl, rfl⟩
  · rw [if_pos h1] at hv
    refine ⟨by rw [mthr, sI_1, if_pos ⟨rfl, rfl⟩, if_pos h1], fun _ => ?_, nb, nr, JJ_thr h.1 _, h.2⟩
    rw [hv, ← ev h1]
    exact up_0 f val
  · exact ⟨by rw [mthr, sI_1, if_pos ⟨rfl, rfl⟩, if_neg (by rw [h1]; decide)], fun z => absurd z (by decide), nb, nr, JJ_thr h.1 _, h.2⟩
theorem ls_share {nb nr : Nat} {S M M2 : sSt} {f : Nat → Int64} {v : Int64} {r bb sd pp : Int32} {X : sSt × (Nat → Int64)} (h : RR nb nr S M) (hx : (shOk S bb sd pp = true ∧ r = nI 0 ∧ X = (S, vp_updL f 0 (shV S bb sd pp))) ∨ (shOk S bb sd pp = false ∧ r = nI 1 ∧ X = (S, f))) (hm : v = (if mshG M bb sd pp = true then M.2 4 (12 * bb.toNatClampNeg + 6 * sd.toNatClampNeg + pp.toNatClampNeg) else 0) ∧ M2 = mthr M (mshG M bb sd pp)) : M2.1 0 0 = r ∧ (r = nI 0 → X.2 0 = v) ∧ RE X.1 M2 := by
  have hk := h.1.1
  refine ls_gen h (by rw [shOk, mshG, bd_w hk, sd_w, h6_w]) (fun z => ?_) hx hm
  rw [shOk, Bool.and_eq_true, Bool.and_eq_true] at z
  obtain ⟨b, hb, rfl⟩ := hbd_n hk.2.2.1 hk.1 z.1
  obtain ⟨s, hs, rfl⟩ := sdOk_n z.2.1
  obtain ⟨p, hp, rfl⟩ := h6_n z.2.2
  have hb6 := hk.1
  rw [shV, nI_clamp (by omega), nI_clamp (by omega), nI_clamp (by omega)]
  exact sim_share h.1 hb hs hp
theorem su_w (wh : Int32) : suW wh = wth wh.toInt64 0 8 := by
  have hj : ∀ j : Nat, j ≤ 8 → (wh = nI j ↔ wh.toInt = j) := fun j h => by rw [← Int32.toInt_inj, nI_toInt (by omega)]
  have a : (0 : Int64).toInt = 0 := rfl
  have b : (8 : Int64).toInt = 8 := by decide
  rw [Bool.eq_iff_iff, suW, wth]
  simp only [Bool.or_eq_true, Bool.and_eq_true, Bool.not_eq_true', decide_eq_true_iff, decide_eq_false_iff_not]
  rw [hj 0 (by omega), hj 1 (by omega), hj 2 (by omega), hj 3 (by omega), hj 4 (by omega), hj 5 (by omega), hj 6 (by omega), hj 7 (by omega), hj 8 (by omega), i_lt, i_lt, Int32.toInt_toInt64, a, b]
  omega
theorem ls_sum {nb nr : Nat} {S M M2 : sSt} {f : Nat → Int64} {v : Int64} {r bb wh : Int32} {X : sSt × (Nat → Int64)} (h : RR nb nr S M) (hx : (suOk S bb wh = true ∧ r = nI 0 ∧ X = (S, vp_updL f 0 (suV S nr bb wh))) ∨ (suOk S bb wh = false ∧ r = nI 1 ∧ X = (S, f))) (hm : v = (if msmG M bb wh = true then msmV (sI M 0 0 (nI 0)) bb.toNatClampNeg nr wh else 0) ∧ M2 = mthr M (msmG M bb wh)) : M2.1 0 0 = r ∧ (r = nI 0 → X.2 0 = v) ∧ RE X.1 M2 := by
  have hk := h.1.1
  refine ls_gen h (by rw [suOk, msmG, bd_w hk, su_w]) (fun z => ?_) hx hm
  rw [suOk, Bool.and_eq_true] at z
  obtain ⟨b, hb, rfl⟩ := hbd_n hk.2.2.1 hk.1 z.1
  have hb6 := hk.1
  have hJ : JJ S (sI M 0 0 (nI 0)) nb nr (fun _ => 0) := JJ_t0 h.1
  obtain ⟨q1, q2, q3⟩ := sim_bnd hJ hb
  rw [suV, nI_clamp (by omega), suF, msmV, q1, q2, q3, sim_shs hJ hb (show 0 < 2 by omega) true 6 (by omega), sim_shs hJ hb (show 1 < 2 by omega) true 6 (by omega), sim_shs hJ hb (show 0 < 2 by omega) false 6 (by omega), sim_shs hJ hb (show 1 < 2 by omega) false 6 (by omega), sim_inr hJ false nr (by omega), sim_inr hJ false nr (by omega), sim_inr hJ true nr (by omega), sim_inr hJ true nr (by omega)]
theorem ls_lent {nb nr : Nat} {S M M2 : sSt} {f : Nat → Int64} {v : Int64} {r rr : Int32} {X : sSt × (Nat → Int64)} (h : RR nb nr S M) (hx : (hrw S rr = true ∧ r = nI 0 ∧ X = (S, vp_updL f 0 (S.2 32 rr.toNatClampNeg))) ∨ (hrw S rr = false ∧ r = nI 1 ∧ X = (S, f))) (hm : v = (if mrw M rr = true then M.2 16 rr.toNatClampNeg else 0) ∧ M2 = mthr M (mrw M rr)) : M2.1 0 0 = r ∧ (r = nI 0 → X.2 0 = v) ∧ RE X.1 M2 := by
  have hk := h.1.1
  refine ls_gen h (rw_w hk rr) (fun z => ?_) hx hm
  obtain ⟨n, h1, h2, rfl⟩ := hrw_n hk.2.2.2.2.1 hk.2.1 z
  have hr := hk.2.1
  rw [nI_clamp (by omega)]
  exact sim_lent h.1 h1 h2
theorem wa_w {nb nr : Nat} {S M : sSt} (h : JJ S M nb nr (fun _ => 0)) (pp kk : Int32) : waOk S pp kk = mwtG M pp kk := by
  have a : (0 : Int64).toInt = 0 := rfl
  have c : (0 : Int32).toInt = 0 := rfl
  rw [waOk, mwtG, ← h6_w]
  by_cases z : h6 pp = true
  · obtain ⟨n, hn, e⟩ := h6_n z
    subst e
    obtain ⟨k, hk, e1, e2, _⟩ := sim_waits h hn
    rw [nI_clamp (by omega), e1, e2, wth]
    congr 1
    congr 1
    · congr 1
      rw [decide_eq_decide, Int32.lt_iff_toInt_lt, i_lt, Int32.toInt_toInt64, a, c]
    · rw [← decide_not, decide_eq_decide, Int32.lt_iff_toInt_lt, i_lt, Int32.toInt_toInt64, nb1_toInt (by omega), nI_toInt (by omega)]
      omega
  · rw [Bool.not_eq_true] at z
    rw [z]; rfl
theorem ls_waits {nb nr : Nat} {S M M2 : sSt} {f : Nat → Int64} {v : Int64} {r pp kk : Int32} {X : sSt × (Nat → Int64)} (h : RR nb nr S M) (hx : (waOk S pp kk = true ∧ r = nI 0 ∧ X = (S, vp_updL f 0 (waV S pp kk))) ∨ (waOk S pp kk = false ∧ r = nI 1 ∧ X = (S, f))) (hm : v = (if mwtG M pp kk = true then M.2 11 (8 * pp.toNatClampNeg + kk.toNatClampNeg) else 0) ∧ M2 = mthr M (mwtG M pp kk)) : M2.1 0 0 = r ∧ (r = nI 0 → X.2 0 = v) ∧ RE X.1 M2 := by
  refine ls_gen h (wa_w h.1 pp kk) (fun z => ?_) hx hm
  rw [waOk, Bool.and_eq_true, Bool.and_eq_true] at z
  obtain ⟨n, hn, rfl⟩ := h6_n z.1
  obtain ⟨k, hk, e1, e2, e3⟩ := sim_waits h.1 hn
  rw [nI_clamp (by omega), e1, Bool.not_eq_true', decide_eq_false_iff_not, decide_eq_true_iff] at z
  obtain ⟨j, hj, rfl⟩ := waOk_n hk z.2.1 z.2.2
  rw [waV, nI_clamp (by omega), nI_clamp (by omega)]
  exact e3 j hj
theorem JJ_s {S S' M : sSt} {nb nr : Nat} {ex : Nat → Int} (h : JJ S M nb nr ex) (a1 : S'.1 = S.1) (a2 : ∀ q, q ≠ 49 → S'.2 q = S.2 q) : JJ S' M nb nr ex := by
  obtain ⟨k, n, P, T, B, Sh, Q, R, Z, c1, c2, c3⟩ := h
  have k6 := k.1
  have e1 : ∀ b s, b < 6 → s < 2 → shI S' b s = shI S b s := fun b s hb hs => by
    funext p; unfold shI; rw [a2 _ (by omega)]
  have e2 : ∀ b, hdI S' b = hdI S b := fun b => by funext r; unfold hdI; rw [a2 33 (by omega), a1]
  refine ⟨jK_c k (by rw [a1]) (by rw [a1]) rfl rfl, ⟨by rw [a1]; exact n.1, by rw [a1]; exact n.2⟩, jP_c P (a2 6 (by omega)) (by rw [a1]) (by rw [a1]) rfl rfl rfl, jT_c T (by rw [a1]) rfl, jB_c B (a2 10 (by omega)) (a2 11 (by omega)) (a2 12 (by omega)) rfl rfl rfl, fun b s p hb hs hp => by rw [a2 _ (by omega)]; exact Sh b s p hb hs hp,
    jQ_c Q (by rw [a1]) (by rw [a1]) (fun p _ => by rw [a1]) (fun p hp => a2 _ (by omega)) rfl rfl rfl, jR_c R (fun q _ _ => by rw [a1]) (a2 32 (by omega)) (a2 33 (by omega)) (fun q _ _ => rfl) rfl, jZ_c Z (by rw [a1]) (by rw [a1]), fun b s p hb hs hp => by rw [e1 b s (by omega) hs]; exact c1 b s p hb hs hp, fun r h1 h2 => by rw [a2 33 (by omega)]; exact c2 r h1 h2, fun b hb => ?_⟩
  have e : totI S' nr b = totI S nr b := by
    unfold totI
    rw [e1 b 0 (by omega) (by omega), e1 b 1 (by omega) (by omega), e2]
  rw [e]
  exact c3 b hb
theorem JJ_uow {S M : sSt} {nb nr : Nat} {ex : Nat → Int} (h : JJ S M nb nr ex) : JJ (uow S 6) M nb nr ex := JJ_s h (uow_1 S 6) (uow_p h.2.2.1 6 (by omega)).1
theorem ls_boundH {nb nr : Nat} {S M : sSt} (h : RR nb nr S M) (fl va ce : Int64) : mbH M nb fl va ce := fun hg hne hnb => (sim_bound h.1 (by rw [ord_w]; exact hg) hne hnb).2.1
theorem ls_bound {nb nr : Nat} {S M M2 : sSt} {f : Nat → Int64} {fl va ce : Int64} {r r2 : Int32} {X : sSt × (Nat → Int64)} (h : RR nb nr S M) (hx : ((ordOk fl va ce = true ∧ ¬ sumW (uow S 6) 6 = 0 ∧ nb < 6) ∧ r = nI 0 ∧ X = (bdS S nb fl va ce, vp_updL f 0 ((nI nb).toInt64))) ∨ (ordOk fl va ce = false ∧ r = nI 1 ∧ X = (S, f)) ∨ ((ordOk fl va ce = true ∧ sumW (uow S 6) 6 = 0) ∧ r = nI 2 ∧ X = (uow S 6, f)) ∨ ((ordOk fl va ce = true ∧ ¬ sumW (uow S 6) 6 = 0 ∧ ¬ nb < 6) ∧ r = nI 3 ∧ X = (uow S 6, f))) (hm : r2 = (mbdF M nb fl va ce).1 ∧ M2 = (mbdF M nb fl va ce).2) : M2.1 0 0 = r ∧ (r = nI 0 → X.2 0 = r2.toInt64) ∧ RE X.1 M2 := by
  have ea := (all_w h.1.2.2.1).1
  have k6 := h.1.1.1
  rw [mbdF, ← ord_w fl va ce] at hm
  rcases hx with ⟨⟨a1, a2, a3⟩, rfl, rfl⟩ | ⟨a1, rfl, rfl⟩ | ⟨⟨a1, a2⟩, rfl, rfl⟩ | ⟨⟨a1, a2, a3⟩, rfl, rfl⟩
  · have a2' : ¬ mall M false 6 = 0 := by rw [← ea]; exact a2
    rw [if_pos a1, mbdR, if_neg a2', if_neg (by omega)] at hm
    obtain ⟨rfl, rfl⟩ := hm
    have b := sim_bound h.1 a1 a2' a3
    refine ⟨?_, fun _ => up_0 f _, nb + 1, nr, b.1, sv_eq h.2 b.2.2⟩
    show (sI (mbs (mb0 M nb fl va ce) nb fl va ce 2) 0 1 (nI (nb + 1))).1 0 0 = nI 0
    rw [sI_1, if_neg (by omega), mbs_q _ _ _ _ _ 0 (by omega), mb0, sL_1, sL_1, sL_1, mt0, sI_1, if_pos ⟨rfl, rfl⟩]
  · rw [if_neg (by rw [a1]; decide)] at hm
    obtain ⟨rfl, rfl⟩ := hm
    refine ⟨?_, fun z => absurd z (by decide), nb, nr, JJ_thr h.1 _, h.2⟩
    show (sI M 0 0 (nI 1)).1 0 0 = nI 1
    rw [sI_1, if_pos ⟨rfl, rfl⟩]
  · rw [if_pos a1, mbdR, if_pos (by rw [← ea]; exact a2)] at hm
    obtain ⟨rfl, rfl⟩ := hm
    refine ⟨?_, fun z => absurd z (by decide), nb, nr, JJ_thr (JJ_uow h.1) _, sv_eq h.2 (by rw [uow_1])⟩
    show (sI M 0 0 (nI 2)).1 0 0 = nI 2
    rw [sI_1, if_pos ⟨rfl, rfl⟩]
  · have a2' : ¬ mall M false 6 = 0 := by rw [← ea]; exact a2
    rw [if_pos a1, mbdR, if_neg a2', if_pos (by omega)] at hm
    obtain ⟨rfl, rfl⟩ := hm
    refine ⟨?_, fun z => absurd z (by decide), nb, nr, JJ_thr (JJ_uow h.1) _, sv_eq h.2 (by rw [uow_1])⟩
    show (sI M 0 0 (nI 3)).1 0 0 = nI 3
    rw [sI_1, if_pos ⟨rfl, rfl⟩]
