/-! the guards are the same; small calls -/
theorem h6_w (pp : Int32) : h6 pp = wth pp.toInt64 0 5 := by
  have a : (0 : Int64).toInt = 0 := rfl
  have b : (5 : Int64).toInt = 5 := by decide
  have c : (0 : Int32).toInt = 0 := rfl
  have d : (nI 6).toInt = 6 := by decide
  rw [h6, wth]
  congr 1
  · congr 1
    rw [decide_eq_decide, Int32.lt_iff_toInt_lt, i_lt, Int32.toInt_toInt64, a, c]
  · congr 1
    rw [decide_eq_decide, Int32.le_iff_toInt_le, i_lt, Int32.toInt_toInt64, b, d]
    omega
theorem sd_w (sd : Int32) : sdOk sd = wth sd.toInt64 0 1 := by
  have a : (0 : Int64).toInt = 0 := rfl
  have b : (1 : Int64).toInt = 1 := rfl
  have c : (0 : Int32).toInt = 0 := rfl
  have d : (nI 1).toInt = 1 := by decide
  rw [sdOk, wth]
  by_cases z : sdOk sd = true
  · obtain ⟨n, hn, e⟩ := sdOk_n z
    subst e
    rcases (show n = 0 ∨ n = 1 by omega) with rfl | rfl <;> decide
  · have z2 : ¬ (sd.toInt = 0 ∨ sd.toInt = 1) := fun w => z (by
      rw [sdOk, Bool.or_eq_true, decide_eq_true_iff, decide_eq_true_iff]
      rcases w with w | w
      · exact Or.inl (Int32.toInt_inj.mp (by rw [w, c]))
      · exact Or.inr (Int32.toInt_inj.mp (by rw [w, d])))
    have e1 : (decide (sd = 0) || decide (sd = nI 1)) = false := by
      rw [sdOk, Bool.not_eq_true] at z
      exact z
    rw [e1]
    symm
    rw [Bool.and_eq_false_iff, Bool.not_eq_false', Bool.not_eq_false', decide_eq_true_iff, decide_eq_true_iff, i_lt, i_lt, Int32.toInt_toInt64, a, b]
    omega
theorem wl_w {S M : sSt} (h : jP S M) (pp : Int32) : wl S pp = mwl M pp := by
  rw [wl, mwl, ← h6_w]
  by_cases z : h6 pp = true
  · obtain ⟨n, hn, e⟩ := h6_n z
    subst e
    rw [nI_clamp (by omega), (h n hn).2.2.1]
  · rw [Bool.not_eq_true] at z
    rw [z]; rfl
theorem bd_w {S M : sSt} {nb nr : Nat} (h : jK S M nb nr) (bb : Int32) : hbd S bb = mbd M bb := by
  obtain ⟨k1, k2, k3, k4, k5, k6⟩ := h
  rw [hbd, mbd, k3, k4, wth]
  congr 1
  · congr 1
    rw [decide_eq_decide, Int32.lt_iff_toInt_lt, i_lt, Int32.toInt_toInt64]
    exact Iff.rfl
  · congr 1
    rw [decide_eq_decide, Int32.le_iff_toInt_le, i_lt, Int32.toInt_toInt64, nb1_toInt (by omega), nI_toInt (by omega)]
    omega
theorem rw_w {S M : sSt} {nb nr : Nat} (h : jK S M nb nr) (rr : Int32) : hrw S rr = mrw M rr := by
  obtain ⟨k1, k2, k3, k4, k5, k6⟩ := h
  have d : (nI 1).toInt = 1 := by decide
  rw [hrw, mrw, k5, k6, wth]
  congr 1
  · congr 1
    rw [decide_eq_decide, Int32.lt_iff_toInt_lt, i_lt, Int32.toInt_toInt64, d]
    exact Iff.rfl
  · congr 1
    rw [decide_eq_decide, Int32.lt_iff_toInt_lt, i_lt, Int32.toInt_toInt64, Int32.toInt_toInt64]
theorem JJ_thr {S M : sSt} {nb nr : Nat} {ex : Nat → Int} (h : JJ S M nb nr ex) (x : Int32) : JJ S (sI M 0 0 x) nb nr ex := JJ_agree h (fun _ _ => rfl) rfl (fun q hq => sI_q hq) rfl (by rw [sI_1, if_neg (by omega)]) (by rw [sI_1, if_neg (by omega)]) (by
  have hn := h.2.1
  unfold jN at hn ⊢
  rw [sI_1, if_neg (by omega), sI_1, if_neg (by omega)]
  exact hn)
theorem JJ_t0 {S M : sSt} {nb nr : Nat} {ex : Nat → Int} (h : JJ S M nb nr ex) : JJ S (mt0 M) nb nr ex := JJ_thr h (nI 0)
/-- states of people -/
def sv (S : sSt) : Prop := ∀ p, p < 6 → S.1 8 p = 0 ∨ S.1 8 p = nI 1 ∨ S.1 8 p = nI 2
theorem w_1e6 (ww : Int64) : (!decide (ww < 0) && decide (ww ≤ 1000000)) = wth ww 0 1000000 := by
  rw [wth]
  congr 1
  by_cases z : ww ≤ 1000000
  · rw [decide_eq_true z, decide_eq_false (fun q => by rw [i_lt] at q; rw [i_le] at z; omega)]; rfl
  · rw [decide_eq_false z, decide_eq_true (by rw [i_le] at z; rw [i_lt]; omega)]; rfl
theorem sim_weigh {S M : sSt} {nb nr : Nat} (h : JJ S M nb nr (fun _ => 0)) (pp : Int32) (ww : Int64) : wgOk S pp ww = mwgOk M pp ww ∧ JJ (if wgOk S pp ww = true then sL S 6 pp.toNatClampNeg ww else S) (if mwgOk M pp ww = true then sL M 5 pp.toNatClampNeg ww else M) nb nr (fun _ => 0) := by
  have e : wgOk S pp ww = mwgOk M pp ww := by rw [wgOk, mwgOk, wl_w h.2.2.1 pp, w_1e6]
  refine ⟨e, ?_⟩
  rw [← e]
  by_cases z : wgOk S pp ww = true
  · rw [if_pos z, if_pos z]
    rw [wgOk, Bool.and_eq_true, Bool.and_eq_true, Bool.not_eq_true', decide_eq_false_iff_not, decide_eq_true_iff, i_lt, i_le, i_0] at z
    have m6 : (1000000 : Int64).toInt = 1000000 := by decide
    rw [m6] at z
    obtain ⟨k, n, P, T, B, Sh, Q, R, Z, c1, c2, c3⟩ := h
    have nb6 := k.1
    refine ⟨jK_c k rfl rfl rfl rfl, n, fun p hp => ?_, jT_c T rfl rfl, jB_c B (sL_q (by omega)) (sL_q (by omega)) (sL_q (by omega)) (sL_q (by omega)) (sL_q (by omega)) (sL_q (by omega)), fun b s p hb hs hp => by rw [sL_q (by omega), sL_q (show (4 : Nat) ≠ 5 by omega)]; exact Sh b s p hb hs hp,
      jQ_c Q rfl rfl (fun _ _ => rfl) (fun q _ => sL_q (by omega)) rfl rfl (sL_q (by omega)), jR_c R (fun _ _ _ => rfl) (sL_q (by omega)) (sL_q (by omega)) (fun _ _ _ => rfl) (sL_q (by omega)), jZ_c Z rfl rfl, fun b s p hb hs hp => by unfold shI; rw [sL_q (by omega)]; exact c1 b s p hb hs hp, fun r h1 h2 => by rw [sL_q (show (33 : Nat) ≠ 6 by omega)]; exact c2 r h1 h2, fun b hb => ?_⟩
    · have hP := P p hp
      rw [sL_1, sL_1, sL_2, sL_2]
      by_cases y : p = pp.toNatClampNeg
      · rw [if_pos ⟨rfl, y⟩, if_pos ⟨rfl, y⟩]
        exact ⟨rfl, hP.2.1, hP.2.2.1, by omega, by omega⟩
      · rw [if_neg (fun v => y v.2), if_neg (fun v => y v.2)]
        exact hP
    · have e1 : totI (sL S 6 pp.toNatClampNeg ww) nr b = totI S nr b := by
        unfold totI
        have e1 : ∀ s, s < 2 → shI (sL S 6 pp.toNatClampNeg ww) b s = shI S b s := fun s hs => by funext p; unfold shI; rw [sL_q (by omega)]
        have e2 : hdI (sL S 6 pp.toNatClampNeg ww) b = hdI S b := by funext r; unfold hdI; rw [sL_q (show (33 : Nat) ≠ 6 by omega), sL_1]
        rw [e1 0 (by omega), e1 1 (by omega), e2]
      rw [e1]
      exact c3 b hb
  · rw [if_neg z, if_neg z]
    exact h
theorem sim_patient {S M : sSt} {nb nr : Nat} (h : JJ S M nb nr (fun _ => 0)) (pp : Int32) (b0 : Bool) : ptOk S pp b0 = mptOk M pp b0 ∧ JJ (if ptOk S pp b0 = true then sI S 7 pp.toNatClampNeg (bI b0) else S) (if mptOk M pp b0 = true then sI M 7 pp.toNatClampNeg (bI b0) else M) nb nr (fun _ => 0) := by
  have e : ptOk S pp b0 = mptOk M pp b0 := by
    rw [ptOk, mptOk, wl_w h.2.2.1 pp]
    by_cases z : mwl M pp = true
    · obtain ⟨n, hn, e⟩ := mwl_n z
      subst e
      rw [nI_clamp (by omega), (h.2.2.1 n hn).2.1]
    · rw [Bool.not_eq_true] at z
      rw [z]; rfl
  refine ⟨e, ?_⟩
  rw [← e]
  by_cases z : ptOk S pp b0 = true
  · rw [if_pos z, if_pos z]
    obtain ⟨k, n, P, T, B, Sh, Q, R, Z, c1, c2, c3⟩ := h
    refine ⟨jK_c k rfl rfl rfl rfl, n, fun p hp => ?_, jT_c T rfl rfl, jB_c B rfl rfl rfl rfl rfl rfl, Sh, jQ_c Q rfl rfl (fun q _ => sI_q (by omega)) (fun _ _ => rfl) rfl rfl rfl, jR_c R (fun q _ _ => sI_q (by omega)) rfl rfl (fun q _ _ => sI_q (by omega)) rfl, jZ_c Z rfl rfl, c1, c2, fun b hb => ?_⟩
    · have hP := P p hp
      rw [sI_2, sI_2, sI_q (show (8 : Nat) ≠ 7 by omega), sI_q (show (6 : Nat) ≠ 7 by omega), sI_1, sI_1]
      refine ⟨hP.1, ?_, hP.2.2⟩
      by_cases y : p = pp.toNatClampNeg
      · rw [if_pos ⟨rfl, y⟩, if_pos ⟨rfl, y⟩]
      · rw [if_neg (fun v => y v.2), if_neg (fun v => y v.2)]
        exact hP.2.1
    · have e1 : totI (sI S 7 pp.toNatClampNeg (bI b0)) nr b = totI S nr b := by
        unfold totI
        have e2 : hdI (sI S 7 pp.toNatClampNeg (bI b0)) b = hdI S b := by funext r; unfold hdI; rw [sI_q (show (26 : Nat) ≠ 7 by omega), sI_2]
        rw [e2]
        rfl
      rw [e1]
      exact c3 b hb
  · rw [if_neg z, if_neg z]
    exact h
theorem sim_lose {S M : sSt} {nb nr : Nat} (h : JJ S M nb nr (fun _ => 0)) (rr : Int32) : lsOk S rr = mlsOk M rr ∧ JJ (if lsOk S rr = true then sI S 30 rr.toNatClampNeg (nI 2) else S) (if mlsOk M rr = true then sI M 17 rr.toNatClampNeg (nI 2) else M) nb nr (fun _ => 0) := by
  have hJ := h
  obtain ⟨k, n, P, T, B, Sh, Q, R, Z, c1, c2, c3⟩ := h
  have e : lsOk S rr = mlsOk M rr := by
    rw [lsOk, mlsOk, rw_w k rr]
    by_cases z : mrw M rr = true
    · obtain ⟨r, h1, h2, e⟩ := mrw_n k.2.2.2.2.2 k.2.1 z
      subst e
      have := k.2.1
      rw [nI_clamp (by omega), (R r h1 h2).2.1]
    · rw [Bool.not_eq_true] at z
      rw [z]; rfl
  refine ⟨e, ?_⟩
  rw [← e]
  by_cases z : lsOk S rr = true
  · rw [if_pos z, if_pos z]
    rw [lsOk, Bool.and_eq_true, decide_eq_true_iff] at z
    obtain ⟨r, h1, h2, er⟩ := hrw_n k.2.2.2.2.1 k.2.1 z.1
    have := k.2.1
    subst er
    rw [nI_clamp (by omega)] at z ⊢
    have n20 : ¬ nI 2 = nI 1 := by decide
    have n01 : ¬ (0 : Int32) = nI 1 := by decide
    refine ⟨jK_c k rfl rfl rfl rfl, n, jP_c P rfl rfl rfl rfl rfl rfl, jT_c T rfl rfl, jB_c B rfl rfl rfl rfl rfl rfl, Sh, jQ_c Q rfl rfl (fun q _ => sI_q (by omega)) (fun _ _ => rfl) rfl rfl rfl, fun r' g1 g2 => ?_, fun r' g1 g2 => ?_, c1, c2, fun b hb => ?_⟩
    · have hr := R r' g1 g2
      rw [sI_2, sI_2, sI_q (show (26 : Nat) ≠ 30 by omega), sI_q (show (27 : Nat) ≠ 30 by omega), sI_q (show (28 : Nat) ≠ 30 by omega), sI_q (show (29 : Nat) ≠ 30 by omega), sI_q (show (31 : Nat) ≠ 30 by omega), sI_q (show (12 : Nat) ≠ 17 by omega), sI_q (show (13 : Nat) ≠ 17 by omega), sI_q (show (14 : Nat) ≠ 17 by omega), sI_q (show (15 : Nat) ≠ 17 by omega), sI_q (show (18 : Nat) ≠ 17 by omega), sI_q (show (19 : Nat) ≠ 17 by omega), sI_1, sI_1]
      by_cases y : r' = r
      · subst y
        rw [if_pos ⟨rfl, rfl⟩, if_pos ⟨rfl, rfl⟩]
        refine ⟨hr.1, rfl, hr.2.2.1, hr.2.2.2.1, hr.2.2.2.2.1, ?_⟩
        rcases hr.2.2.2.2.2 with w | w
        · exact Or.inl ⟨w.1, fun v => absurd v n20, fun _ => w.2.2 (by rw [z.2]; exact n01)⟩
        · exact Or.inr ⟨w.1, rfl, w.2.2⟩
      · rw [if_neg (fun v => y v.2), if_neg (fun v => y v.2)]
        exact hr
    · rw [sI_1, if_neg (by omega), sI_q (show (31 : Nat) ≠ 30 by omega)]
      exact Z r' g1 g2
    · have e1 : totI (sI S 30 r (nI 2)) nr b = totI S nr b := by
        unfold totI
        have e2 : hdI (sI S 30 r (nI 2)) b = hdI S b := by funext r'; unfold hdI; rw [sI_q (show (26 : Nat) ≠ 30 by omega), sI_2]
        rw [e2]
        rfl
      rw [e1]
      exact c3 b hb
  · rw [if_neg z, if_neg z]
    exact hJ
theorem sim_row {S M : sSt} {nb nr : Nat} {ex : Nat → Int} (h : JJ S M nb nr ex) (rr wh : Int32) : rwF S rr wh = mrwF M rr wh := by
  obtain ⟨k, n, P, T, B, Sh, Q, R, Z, C⟩ := h
  rw [rwF, mrwF, rw_w k rr]
  by_cases z : mrw M rr = true
  · rw [if_pos z, if_pos z]
    obtain ⟨r, h1, h2, e⟩ := mrw_n k.2.2.2.2.2 k.2.1 z
    have := k.2.1
    obtain ⟨⟨b, s, f, t, hb, hs, hf, ht, r26, r27, r28, r29, m12, m13, m14, m15⟩, q1, q2, -⟩ := R r h1 h2
    subst e
    rw [nI_clamp (by omega), rwV, mrwV, r26, r27, r28, r29, m12, m13, m14, m15, q1, q2]
  · rw [if_neg z, if_neg z]
theorem sim_total {S M : sSt} {nb nr : Nat} {ex : Nat → Int} (h : JJ S M nb nr ex) (wh : Int32) : ttF S wh = mttF M wh := by
  obtain ⟨⟨k1, k2, k3, k4, k5, k6⟩, n, -⟩ := h
  rw [ttF, mttF, k3, k4, k5, k6, n.1, n.2]
  rfl
theorem sim_person {S M : sSt} {nb nr : Nat} {ex : Nat → Int} (h : JJ S M nb nr ex) (pp wh : Int32) : psF S pp wh = mpsF M pp wh := by
  obtain ⟨k, n, P, T, B, Sh, Q, R, Z, C⟩ := h
  rw [psF, mpsF, ← h6_w]
  by_cases z : h6 pp = true
  · rw [if_pos z, if_pos z]
    obtain ⟨p, hp, e⟩ := h6_n z
    subst e
    obtain ⟨w, w64, w9, wt⟩ := T p hp
    obtain ⟨m, m8, m1, m2, -⟩ := Q p hp
    rw [nI_clamp (by omega), psV, mpsV, w9, bc_64 w w64, mcnt_n wt 6 (by omega), m1, m2, (P p hp).2.1, (P p hp).2.2.1]
    rfl
  · rw [if_neg z, if_neg z]
