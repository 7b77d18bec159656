/-! deliver, end, vouch -/
/-- a row is delivered the first time: what it held is on its way -/
theorem JJ_dl {S M : sSt} {nb nr r b : Nat} (h : JJ S M nb nr (fun _ => 0)) (h1 : 1 ≤ r) (h2 : r ≤ nr) (hb : b < nb) (hbr : S.1 26 r = nI b) (h30 : ¬ S.1 30 r = nI 2) (h31 : ¬ S.1 30 r = nI 1) :
    JJ (sL (sI (sI S 31 r (S.1 31 r + nI 1)) 30 r (nI 1)) 33 r 0) (sI (mdl1 M r) 17 r (nI 1)) nb nr (exA (fun _ => 0) b (S.2 33 r).toInt) ∧ S.2 33 r = M.2 16 r ∧ 1 ≤ (S.2 33 r).toInt := by
  obtain ⟨k, n, P, T, B, Sh, Q, R, Z, c1, c2, c3⟩ := h
  have nb6 := k.1
  have hr := R r h1 h2
  have hback := hr.2.2.2.2.2.resolve_right (fun w => h30 w.2.1)
  have hheld : S.2 33 r = S.2 32 r := hback.2.2 h31
  have a1 : ∀ q, q ≠ 30 → q ≠ 31 → (sL (sI (sI S 31 r (S.1 31 r + nI 1)) 30 r (nI 1)) 33 r 0).1 q = S.1 q := fun q e1 e2 => by rw [sL_1, sI_q e1, sI_q e2]
  have a2 : ∀ q, q ≠ 33 → (sL (sI (sI S 31 r (S.1 31 r + nI 1)) 30 r (nI 1)) 33 r 0).2 q = S.2 q := fun q hq => by rw [sL_q hq, sI_2, sI_2]
  have b1 : ∀ q, q ≠ 17 → q ≠ 18 → (sI (mdl1 M r) 17 r (nI 1)).1 q = M.1 q := fun q e1 e2 => by rw [sI_q e1, mdl1, sI_q e2]
  have x30 : ∀ i, (sL (sI (sI S 31 r (S.1 31 r + nI 1)) 30 r (nI 1)) 33 r 0).1 30 i = if i = r then nI 1 else S.1 30 i := fun i => by
    rw [sL_1, sI_1]
    by_cases e : i = r
    · rw [if_pos ⟨rfl, e⟩, if_pos e]
    · rw [if_neg (fun z => e z.2), if_neg e, sI_q (by omega)]
  have x31 : ∀ i, (sL (sI (sI S 31 r (S.1 31 r + nI 1)) 30 r (nI 1)) 33 r 0).1 31 i = if i = r then S.1 31 r + nI 1 else S.1 31 i := fun i => by
    rw [sL_1, sI_q (by omega), sI_1]
    by_cases e : i = r
    · rw [if_pos ⟨rfl, e⟩, if_pos e]
    · rw [if_neg (fun z => e z.2), if_neg e]
  have x33 : ∀ i, (sL (sI (sI S 31 r (S.1 31 r + nI 1)) 30 r (nI 1)) 33 r 0).2 33 i = if i = r then 0 else S.2 33 i := fun i => by
    rw [sL_2, sI_2, sI_2]
    by_cases e : i = r
    · rw [if_pos ⟨rfl, e⟩, if_pos e]
    · rw [if_neg (fun z => e z.2), if_neg e]
  have y17 : ∀ i, (sI (mdl1 M r) 17 r (nI 1)).1 17 i = if i = r then nI 1 else M.1 17 i := fun i => by
    rw [sI_1]
    by_cases e : i = r
    · rw [if_pos ⟨rfl, e⟩, if_pos e]
    · rw [if_neg (fun z => e z.2), if_neg e, mdl1, sI_q (by omega)]
  have y18 : ∀ i, (sI (mdl1 M r) 17 r (nI 1)).1 18 i = if i = r then M.1 18 r + nI 1 else M.1 18 i := fun i => by
    rw [sI_q (by omega), mdl1, sI_1]
    by_cases e : i = r
    · rw [if_pos ⟨rfl, e⟩, if_pos e]
    · rw [if_neg (fun z => e z.2), if_neg e]
  refine ⟨⟨jK_c k (by rw [a1 2 (by omega) (by omega)]) (by rw [a1 3 (by omega) (by omega)]) (by rw [b1 0 (by omega) (by omega)]) (by rw [b1 0 (by omega) (by omega)]), by unfold jN; rw [a1 0 (by omega) (by omega), b1 0 (by omega) (by omega)]; exact n, jP_c P (a2 6 (by omega)) (a1 7 (by omega) (by omega)) (a1 8 (by omega) (by omega)) rfl (b1 7 (by omega) (by omega)) (b1 6 (by omega) (by omega)), jT_c T (a1 9 (by omega) (by omega)) (b1 8 (by omega) (by omega)), jB_c B (a2 10 (by omega)) (a2 11 (by omega)) (a2 12 (by omega)) rfl rfl rfl, fun b' s p hb' hs hp => by rw [a2 _ (by omega)]; exact Sh b' s p hb' hs hp,
    jQ_c Q (a1 34 (by omega) (by omega)) (a1 8 (by omega) (by omega)) (fun p _ => a1 (36 + p) (by omega) (by omega)) (fun p hp => a2 (43 + p) (by omega)) (b1 9 (by omega) (by omega)) (b1 10 (by omega) (by omega)) rfl, fun r' g1 g2 => ?_, fun r' g1 g2 => by rw [x30, if_neg (by omega), x31, if_neg (by omega)]; exact Z r' g1 g2, fun b' s p hb' hs hp => by unfold shI; rw [a2 _ (by omega)]; exact c1 b' s p hb' hs hp, fun r' g1 g2 => ?_, fun b' hb' => ?_⟩, by rw [hheld, hr.2.2.2.1], by rw [hheld]; exact hr.2.2.2.2.1⟩
  · have hr' := R r' g1 g2
    rw [a1 26 (by omega) (by omega), a1 27 (by omega) (by omega), a1 28 (by omega) (by omega), a1 29 (by omega) (by omega), a2 32 (by omega), b1 12 (by omega) (by omega), b1 13 (by omega) (by omega), b1 14 (by omega) (by omega), b1 15 (by omega) (by omega), b1 19 (by omega) (by omega), x30, x31, x33, y17, y18]
    by_cases e : r' = r
    · subst e
      rw [if_pos rfl, if_pos rfl, if_pos rfl, if_pos rfl, if_pos rfl]
      exact ⟨hr'.1, rfl, by rw [hr'.2.2.1], hr'.2.2.2.1, hr'.2.2.2.2.1, Or.inl ⟨hback.1, fun _ => rfl, fun w => absurd rfl w⟩⟩
    · rw [if_neg e, if_neg e, if_neg e, if_neg e, if_neg e]
      exact hr'
  · rw [x33]
    split
    · rw [i_0]; omega
    · exact c2 r' g1 g2
  · have e1 : ∀ s, s < 2 → shI (sL (sI (sI S 31 r (S.1 31 r + nI 1)) 30 r (nI 1)) 33 r 0) b' s = shI S b' s := fun s hs => by funext p; unfold shI; rw [a2 _ (by omega)]
    have e2 : sN (hdI (sL (sI (sI S 31 r (S.1 31 r + nI 1)) 30 r (nI 1)) 33 r 0) b') nr = sN (hdI S b') nr - (if b' = b then (S.2 33 r).toInt else 0) := by
      have hu := sN_upd (f := hdI S b') (g := hdI (sL (sI (sI S 31 r (S.1 31 r + nI 1)) 30 r (nI 1)) 33 r 0) b') (k := r - 1) nr (by omega) (fun i _ hi => by
        unfold hdI
        rw [a1 26 (by omega) (by omega), x33, if_neg (show ¬ i + 1 = r by omega)])
      rw [hu]
      have er : r - 1 + 1 = r := by omega
      have g0 : hdI (sL (sI (sI S 31 r (S.1 31 r + nI 1)) 30 r (nI 1)) 33 r 0) b' (r - 1) = 0 := by
        unfold hdI
        have z33 : (sL (sI (sI S 31 r (S.1 31 r + nI 1)) 30 r (nI 1)) 33 r 0).2 33 r = 0 := by rw [x33, if_pos rfl]
        rw [er, z33, i_0]
        split <;> rfl
      have g1 : hdI S b' (r - 1) = if b' = b then (S.2 33 r).toInt else 0 := by
        unfold hdI
        rw [er, hbr]
        by_cases e : b' = b
        · subst e; rw [if_pos rfl, if_pos rfl]
        · rw [if_neg (fun z => e ((nI_eq (by omega) (by omega)).mp z).symm), if_neg e]
      rw [g0, g1]
      omega
    have h3 := c3 b' hb'
    have hh := c2 r h1 h2
    unfold totI at h3 ⊢
    rw [e1 0 (by omega), e1 1 (by omega), e2, exA]
    by_cases e : b' = b
    · rw [if_pos e, if_pos e]
      omega
    · rw [if_neg e, if_neg e]
      omega
/-- a row is delivered again -/
theorem JJ_again {S M : sSt} {nb nr r : Nat} {ex : Nat → Int} (h : JJ S M nb nr ex) (h1 : 1 ≤ r) (h2 : r ≤ nr) : JJ (sI S 31 r (S.1 31 r + nI 1)) (mdl1 M r) nb nr ex := by
  obtain ⟨k, n, P, T, B, Sh, Q, R, Z, c1, c2, c3⟩ := h
  refine ⟨jK_c k rfl rfl rfl rfl, n, jP_c P rfl rfl rfl rfl rfl rfl, jT_c T rfl rfl, jB_c B rfl rfl rfl rfl rfl rfl, Sh, jQ_c Q rfl rfl (fun q _ => sI_q (by omega)) (fun _ _ => rfl) rfl rfl rfl, fun r' g1 g2 => ?_, fun r' g1 g2 => ?_, c1, c2, fun b hb => ?_⟩
  · have hr := R r' g1 g2
    rw [sI_2, sI_q (show (26 : Nat) ≠ 31 by omega), sI_q (show (27 : Nat) ≠ 31 by omega), sI_q (show (28 : Nat) ≠ 31 by omega), sI_q (show (29 : Nat) ≠ 31 by omega), sI_q (show (30 : Nat) ≠ 31 by omega), mdl1, sI_2, sI_q (show (12 : Nat) ≠ 18 by omega), sI_q (show (13 : Nat) ≠ 18 by omega), sI_q (show (14 : Nat) ≠ 18 by omega), sI_q (show (15 : Nat) ≠ 18 by omega), sI_q (show (17 : Nat) ≠ 18 by omega), sI_q (show (19 : Nat) ≠ 18 by omega), sI_1, sI_1]
    by_cases y : r' = r
    · subst y
      rw [if_pos ⟨rfl, rfl⟩, if_pos ⟨rfl, rfl⟩]
      exact ⟨hr.1, hr.2.1, by rw [hr.2.2.1], hr.2.2.2⟩
    · rw [if_neg (fun v => y v.2), if_neg (fun v => y v.2)]
      exact hr
  · rw [sI_1, if_neg (by omega), sI_1, if_neg (by omega)]
    exact Z r' g1 g2
  · have e1 : totI (sI S 31 r (S.1 31 r + nI 1)) nr b = totI S nr b := by
      unfold totI
      have e2 : hdI (sI S 31 r (S.1 31 r + nI 1)) b = hdI S b := by funext r'; unfold hdI; rw [sI_q (show (26 : Nat) ≠ 31 by omega), sI_2]
      rw [e2]
      rfl
    rw [e1]
    exact c3 b hb
theorem sim_deliver {S M : sSt} {nb nr : Nat} (h : JJ S M nb nr (fun _ => 0)) (rr : Int32) : (dlF S rr).1 = (mdlF M rr).1 ∧ JJ (dlF S rr).2 (mdlF M rr).2 nb nr (fun _ => 0) ∧ (dlF S rr).2.1 8 = S.1 8 := by
  have hJ := h
  obtain ⟨K, n, P, T, B, Sh, Q, R, Z, C⟩ := h
  have nb6 := K.1
  have r200 := K.2.1
  by_cases z : mrw M rr = true
  · obtain ⟨r, h1, h2, e⟩ := mrw_n K.2.2.2.2.2 K.2.1 z
    subst e
    obtain ⟨⟨b, s, f, t, hb, hs, hf, ht, r26, r27, r28, r29, m12, m13, m14, m15⟩, q1, q2, q3, q4, q5⟩ := R r h1 h2
    have eg : (hrw S (nI r) && !decide (S.1 30 (nI r).toNatClampNeg = nI 2)) = (mrw M (nI r) && !decide (M.1 17 (nI r).toNatClampNeg = nI 2)) := by rw [rw_w K, nI_clamp (by omega), q1]
    rw [dlF, mdlF, ← eg]
    by_cases y : (hrw S (nI r) && !decide (S.1 30 (nI r).toNatClampNeg = nI 2)) = true
    · rw [if_pos y, if_pos y]
      rw [Bool.and_eq_true, Bool.not_eq_true', decide_eq_false_iff_not, nI_clamp (by omega)] at y
      rw [nI_clamp (show r < 2 ^ 31 by omega), r26, r27, r29, m12, m13, m15, nI_clamp (show b < 2 ^ 31 by omega), nI_clamp (show s < 2 ^ 31 by omega), nI_clamp (show t < 2 ^ 31 by omega), dlR, mdlR]
      have e1 : (sI S 31 r (S.1 31 r + nI 1)).1 30 r = S.1 30 r := by rw [sI_q (by omega)]
      have e2 : (mdl1 M r).1 17 r = S.1 30 r := by rw [mdl1, sI_q (by omega), q1]
      rw [e1, e2]
      by_cases w : S.1 30 r = nI 1
      · rw [if_pos w, if_pos w]
        exact ⟨rfl, JJ_again hJ h1 h2, by show (sI S 31 r _).1 8 = _; rw [sI_q (by omega)]⟩
      · rw [if_neg w, if_neg w]
        obtain ⟨J1, ev, v1⟩ := JJ_dl hJ h1 h2 hb r26 y.2 w
        have ev2 : (sI (sI S 31 r (S.1 31 r + nI 1)) 30 r (nI 1)).2 33 r = S.2 33 r := rfl
        have hx : (S.2 33 r).toInt ≤ exA (fun _ => 0) b (S.2 33 r).toInt b := by
          unfold exA
          rw [if_pos rfl]
          dsimp only
          omega
        have J2 := JJ_rcv J1 hb hs ht (by omega) hx
        have J3 := JJ_add J1 hb hs ht (by omega) hx
        have em : mdl2 M r b s t = sL (sI (mdl1 M r) 17 r (nI 1)) 4 (12 * b + 6 * s + t) ((sI (mdl1 M r) 17 r (nI 1)).2 4 (12 * b + 6 * s + t) + S.2 33 r) := by
          rw [mdl2, ev]
          rfl
        refine ⟨rfl, ?_, ?_⟩
        · show JJ (rcvF _ b s t ((sI (sI S 31 r (S.1 31 r + nI 1)) 30 r (nI 1)).2 33 r)) (cmL t 9 (mdl2 M r b s t)) nb nr _
          rw [ev2, em]
          refine JJ_ex J2 (fun b' _ => ?_)
          unfold exA
          by_cases u : b' = b
          · rw [if_pos u, if_pos u]
            dsimp only
            omega
          · rw [if_neg u, if_neg u]
        · show (rcvF _ b s t ((sI (sI S 31 r (S.1 31 r + nI 1)) 30 r (nI 1)).2 33 r)).1 8 = _
          rw [ev2, rcvF, if_pos (by rw [i_lt, i_0]; omega), (rcvL_o ht (show 49 ≤ 49 by omega) 8 _ _ J3).2, addSh, sL_1, sL_1, sI_q (by omega), sI_q (by omega)]
    · rw [if_neg y, if_neg y]
      exact ⟨rfl, hJ, rfl⟩
  · rw [Bool.not_eq_true] at z
    rw [dlF, mdlF, rw_w K, z]
    exact ⟨rfl, hJ, rfl⟩
/-- a person ends -/
theorem JJ_end {S M : sSt} {nb nr p : Nat} {ex : Nat → Int} (h : JJ S M nb nr ex) (hp : p < 6) : JJ (sI (sI S 8 p (nI 1)) 34 p (nI 0)) (men0 M p) nb nr ex := by
  obtain ⟨k, n, P, T, B, Sh, Q, R, Z, c1, c2, c3⟩ := h
  have nb6 := k.1
  have a1 : ∀ q, q ≠ 8 → q ≠ 34 → (sI (sI S 8 p (nI 1)) 34 p (nI 0)).1 q = S.1 q := fun q e1 e2 => by rw [sI_q e2, sI_q e1]
  have b1 : ∀ q, q ≠ 6 → q ≠ 9 → (men0 M p).1 q = M.1 q := fun q e1 e2 => by rw [men0, sI_q e2, sI_q e1]
  have n10 : ¬ nI 1 = 0 := by decide
  refine ⟨jK_c k (by rw [a1 2 (by omega) (by omega)]) (by rw [a1 3 (by omega) (by omega)]) (by rw [b1 0 (by omega) (by omega)]) (by rw [b1 0 (by omega) (by omega)]), by unfold jN; rw [a1 0 (by omega) (by omega), b1 0 (by omega) (by omega)]; exact n, fun q hq => ?_, jT_c T (a1 9 (by omega) (by omega)) (b1 8 (by omega) (by omega)), jB_c B rfl rfl rfl rfl rfl rfl, Sh, fun q hq => ?_, jR_c R (fun q _ _ => a1 q (by omega) (by omega)) rfl rfl (fun q _ _ => b1 q (by omega) (by omega)) rfl, jZ_c Z (a1 30 (by omega) (by omega)) (a1 31 (by omega) (by omega)), c1, c2, fun b hb => ?_⟩
  · have hP := P q hq
    rw [a1 7 (by omega) (by omega), b1 7 (by omega) (by omega), sI_q (show (8 : Nat) ≠ 34 by omega), sI_1, men0, sI_q (show (6 : Nat) ≠ 9 by omega), sI_1, sI_2, sI_2, sI_2, sI_2]
    refine ⟨hP.1, hP.2.1, ?_, hP.2.2.2⟩
    by_cases z : q = p
    · rw [if_pos ⟨rfl, z⟩, if_pos ⟨rfl, z⟩]
    · rw [if_neg (fun w => z w.2), if_neg (fun w => z w.2)]; exact hP.2.2.1
  · obtain ⟨m, m8, m1, m2, m3, m4⟩ := Q q hq
    have e34 : (sI (sI S 8 p (nI 1)) 34 p (nI 0)).1 34 q = if q = p then nI 0 else S.1 34 q := by
      rw [sI_1]
      by_cases z : q = p
      · rw [if_pos ⟨rfl, z⟩, if_pos z]
      · rw [if_neg (fun w => z w.2), if_neg z, sI_q (by omega)]
    have e8 : (sI (sI S 8 p (nI 1)) 34 p (nI 0)).1 8 q = if q = p then nI 1 else S.1 8 q := by
      rw [sI_q (by omega), sI_1]
      by_cases z : q = p
      · rw [if_pos ⟨rfl, z⟩, if_pos z]
      · rw [if_neg (fun w => z w.2), if_neg z]
    have e9 : (men0 M p).1 9 q = if q = p then nI 0 else M.1 9 q := by
      rw [men0, sI_1]
      by_cases z : q = p
      · rw [if_pos ⟨rfl, z⟩, if_pos z]
      · rw [if_neg (fun w => z w.2), if_neg z, sI_q (by omega)]
    rw [e34, e8, e9, a1 (36 + q) (by omega) (by omega), b1 10 (by omega) (by omega)]
    by_cases z : q = p
    · rw [if_pos z, if_pos z, if_pos z]
      exact ⟨0, by omega, rfl, rfl, fun _ => rfl, fun j hj => absurd hj (Nat.not_lt_zero j)⟩
    · rw [if_neg z, if_neg z, if_neg z]
      exact ⟨m, m8, m1, m2, m3, m4⟩
  · have e1 : totI (sI (sI S 8 p (nI 1)) 34 p (nI 0)) nr b = totI S nr b := by
      unfold totI
      have e2 : hdI (sI (sI S 8 p (nI 1)) 34 p (nI 0)) b = hdI S b := by funext r'; unfold hdI; rw [a1 26 (by omega) (by omega)]; rfl
      rw [e2]
      rfl
    rw [e1]
    exact c3 b hb
theorem sv_set {S : sSt} {e : Nat} {x : Int32} (h : sv S) (hx : x = nI 1 ∨ x = nI 2) : ∀ p, p < 6 → (sI S 8 e x).1 8 p = 0 ∨ (sI S 8 e x).1 8 p = nI 1 ∨ (sI S 8 e x).1 8 p = nI 2 := fun p hp => by
  rw [sI_1]
  split
  · rcases hx with z | z
    · exact Or.inr (Or.inl z)
    · exact Or.inr (Or.inr z)
  · exact h p hp
theorem JJ_enL {S M : sSt} {nb nr : Nat} (h : JJ S M nb nr (fun _ => 0)) (hs : sv S) : ∀ n, n ≤ 6 → JJ (enL nb nr S n) (menL nb nr M n) nb nr (fun _ => 0) ∧ sv (enL nb nr S n) ∧ ∀ e, e < n → (decide ((menL nb nr M e).1 6 e = nI 1) && mtl (menL nb nr M e) e) = true → mrecH (menL nb nr M e) e nb nr
  | 0, _ => ⟨h, hs, fun e he => absurd he (Nat.not_lt_zero e)⟩
  | n + 1, hn => by
    obtain ⟨J, s1, g⟩ := JJ_enL h hs n (by omega)
    have n10 : ¬ nI 1 = 0 := by decide
    rw [enL, menL, ← cr_eq J (show n < 6 by omega)]
    by_cases z : cr (enL nb nr S n) n = true
    · rw [if_pos z, if_pos z]
      have z2 := z
      rw [cr_eq J (show n < 6 by omega), Bool.and_eq_true, decide_eq_true_iff] at z2
      have h8 : (enL nb nr S n).1 8 n = nI 1 := by rw [(J.2.2.1 n (by omega)).2.2.1]; exact z2.1
      obtain ⟨J1, g1, e8⟩ := JJ_recF J (show n < 6 by omega) (by rw [h8]; exact n10) ((told_eq J (show n < 6 by omega)).2 z2.2)
      refine ⟨J1, fun p hp => by rw [e8]; exact sv_set s1 (Or.inr rfl) p hp, fun e he hc => ?_⟩
      by_cases y : e = n
      · subst y; exact g1
      · exact g e (by omega) hc
    · rw [if_neg z, if_neg z]
      refine ⟨J, s1, fun e he hc => ?_⟩
      by_cases y : e = n
      · subst y
        rw [cr_eq J (show e < 6 by omega)] at z
        exact absurd hc z
      · exact g e (by omega) hc
theorem sim_end {S M : sSt} {nb nr : Nat} (h : JJ S M nb nr (fun _ => 0)) (hs : sv S) (pp : Int32) : wl S pp = mwl M pp ∧ JJ (enF S nb nr pp) (menF M nb nr pp) nb nr (fun _ => 0) ∧ sv (enF S nb nr pp) ∧ ∀ p, pp = nI p → p < 6 → menH M nb nr p := by
  refine ⟨wl_w h.2.2.1 pp, ?_⟩
  have hp6 : ∀ p, pp = nI p → p < 6 → menH M nb nr p := fun p e hp => by
    have J0 := JJ_end h hp
    exact fun e he hc => (JJ_enL J0 (sv_set (S := S) hs (Or.inl rfl)) 6 (by omega)).2.2 e he hc
  rw [enF, menF, ← wl_w h.2.2.1 pp]
  by_cases z : wl S pp = true
  · rw [if_pos z, if_pos z]
    obtain ⟨p, hp, e⟩ := wl_n z
    have J0 := JJ_end h hp
    have L := JJ_enL J0 (sv_set (S := S) hs (Or.inl rfl)) 6 (by omega)
    subst e
    rw [nI_clamp (by omega)]
    exact ⟨L.1, L.2.1, hp6⟩
  · rw [if_neg z, if_neg z]
    exact ⟨h, hs, hp6⟩
theorem sim_vouch {S M : sSt} {nb nr : Nat} (h : JJ S M nb nr (fun _ => 0)) (hs : sv S) (pp ee : Int32) : (vcF S nb nr pp ee).1 = (mvcF M nb nr pp ee).1 ∧ JJ (vcF S nb nr pp ee).2 (mvcF M nb nr pp ee).2 nb nr (fun _ => 0) ∧ sv (vcF S nb nr pp ee).2 := by
  have hJ := h
  obtain ⟨K, n, P, T, B, Sh, Q, R, Z, C⟩ := h
  have n10 : ¬ nI 1 = 0 := by decide
  have eg : vcG S pp ee = mvcG M pp ee := by
    rw [vcG, mvcG, wl_w P pp, ← h6_w]
    by_cases z : h6 ee = true
    · obtain ⟨e, he, q⟩ := h6_n z
      subst q
      rw [nI_clamp (by omega), (P e he).2.2.1]
    · rw [Bool.not_eq_true] at z
      rw [z]; rfl
  rw [vcF, mvcF, ← eg]
  by_cases z : vcG S pp ee = true
  · rw [if_pos z, if_pos z]
    rw [vcG, Bool.and_eq_true, Bool.and_eq_true, Bool.not_eq_true', decide_eq_false_iff_not] at z
    obtain ⟨p, hp, e1⟩ := wl_n z.1
    obtain ⟨e, he, e2⟩ := h6_n z.2.1
    subst e1; subst e2
    rw [nI_clamp (show e < 2 ^ 31 by omega)] at z
    rw [nI_clamp (show p < 2 ^ 31 by omega), nI_clamp (show e < 2 ^ 31 by omega), vcR, mvcR, ← (P e he).2.2.1]
    by_cases c : S.1 8 e = nI 2
    · rw [if_pos c, if_pos c]
      exact ⟨rfl, hJ, hs⟩
    · rw [if_neg c, if_neg c]
      obtain ⟨t1, J1⟩ := tk_eq hJ he hp
      have t8 : (vcT S p e).1 8 = S.1 8 := by rw [vcT, sI_q (by omega)]
      have h1 : S.1 8 e = nI 1 := ((hs e he).resolve_left z.2.2).resolve_right c
      by_cases c2 : M.1 8 (6 * e + p) = 0
      · rw [t1, if_pos (decide_eq_true c2), if_pos c2]
        have ec : cr (vcT S p e) e = mtl (mvcT M p e) e := by
          rw [cr_eq J1 he, ← (J1.2.2.1 e he).2.2.1, t8, h1]
          simp
        rw [ec]
        by_cases c3 : mtl (mvcT M p e) e = true
        · rw [if_pos c3, if_pos c3]
          obtain ⟨J2, -, e8⟩ := JJ_recF J1 he (by rw [t8, h1]; exact n10) ((told_eq J1 he).2 c3)
          refine ⟨rfl, J2, fun q hq => ?_⟩
          show (recF (vcT S p e) e nb nr).1 8 q = 0 ∨ _
          rw [e8]
          exact sv_set (S := vcT S p e) (fun q hq => by rw [t8]; exact hs q hq) (Or.inr rfl) q hq
        · rw [if_neg c3, if_neg c3]
          exact ⟨rfl, J1, fun q hq => by show (vcT S p e).1 8 q = 0 ∨ _; rw [t8]; exact hs q hq⟩
      · rw [t1, if_neg (by rw [decide_eq_false c2]; decide), if_neg c2]
        exact ⟨rfl, hJ, hs⟩
  · rw [if_neg z, if_neg z]
    exact ⟨rfl, hJ, hs⟩
/-- what the reference's vouch needs -/
theorem vouch_H {S M : sSt} {nb nr p e : Nat} (h : JJ S M nb nr (fun _ => 0)) (he : e < 6) (hp : p < 6) (h8 : ¬ S.1 8 e = 0) (ht : mtl (mvcT M p e) e = true) : mrecH (mvcT M p e) e nb nr := by
  have J1 := (tk_eq h he hp).2
  have t8 : (vcT S p e).1 8 = S.1 8 := by rw [vcT, sI_q (by omega)]
  exact (JJ_recF J1 he (by rw [t8]; exact h8) ((told_eq J1 he).2 ht)).2.1
