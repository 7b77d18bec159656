/-! take, lend, ask -/
theorem JJ_done {S M Y : sSt} {nb nr : Nat} {ex : Nat → Int} (h : JJ S Y nb nr ex) (e : M = sI Y 0 22 (Y.1 0 22 + nI 1)) : JJ (dnS S) M nb nr ex := by
  subst e
  refine JJ_agree h (fun q hq => by rw [dnS, sI_q hq]) rfl (fun q hq => sI_q hq) rfl (by rw [sI_1, if_neg (by omega)]) (by rw [sI_1, if_neg (by omega)]) ?_
  have hn := h.2.1
  unfold jN at hn ⊢
  refine ⟨?_, ?_⟩ <;> simp [dnS, sI_1, hn.1, hn.2]
theorem JJ_ref {S M : sSt} {nb nr : Nat} {ex : Nat → Int} (h : JJ S M nb nr ex) : JJ (rfS S) (mrfS M) nb nr ex := by
  refine JJ_agree h (fun q hq => by rw [rfS, sI_q hq]) rfl (fun q hq => by rw [mrfS, sI_q hq]) rfl (by rw [mrfS, sI_1, if_neg (by omega)]) (by rw [mrfS, sI_1, if_neg (by omega)]) ?_
  have hn := h.2.1
  unfold jN at hn ⊢
  refine ⟨?_, ?_⟩ <;> simp [rfS, mrfS, sI_1, hn.1, hn.2]
theorem JJ_app {S M : sSt} {nb nr p k b : Nat} {ex : Nat → Int} {v : Int64} (h : JJ S M nb nr ex) (hp : p < 6) (hw : S.1 8 p = 0) (hk : S.1 34 p = nI k) (h8 : k < 8) (hb : b < nb) (v1 : -1000000000000 ≤ v.toInt) (v2 : v.toInt ≤ 1000000000000) : JJ (qapp S p k b v) (mqapp M p k b v) nb nr ex := by
  obtain ⟨K, n, P, T, B, Sh, Q, R, Z, c1, c2, c3⟩ := h
  have nb6 := K.1
  have a1 : ∀ q, q ≠ 34 → q ≠ 36 + p → (qapp S p k b v).1 q = S.1 q := fun q h1 h2 => by rw [qapp, sI_q h1, sL_1, sI_q h2]
  have a2 : ∀ q, q ≠ 43 + p → (qapp S p k b v).2 q = S.2 q := fun q h1 => by rw [qapp, sI_2, sL_q h1, sI_2]
  have b1 : ∀ q, q ≠ 9 → q ≠ 10 → (mqapp M p k b v).1 q = M.1 q := fun q h1 h2 => by rw [mqapp, sI_q h1, sL_1, sI_q h2]
  have b2 : ∀ q, q ≠ 11 → (mqapp M p k b v).2 q = M.2 q := fun q h1 => by rw [mqapp, sI_2, sL_q h1, sI_2]
  refine ⟨jK_c K (by rw [a1 2 (by omega) (by omega)]) (by rw [a1 3 (by omega) (by omega)]) (by rw [b1 0 (by omega) (by omega)]) (by rw [b1 0 (by omega) (by omega)]), by unfold jN; rw [a1 0 (by omega) (by omega), b1 0 (by omega) (by omega)]; exact n, jP_c P (a2 6 (by omega)) (a1 7 (by omega) (by omega)) (a1 8 (by omega) (by omega)) (b2 5 (by omega)) (b1 7 (by omega) (by omega)) (b1 6 (by omega) (by omega)), jT_c T (a1 9 (by omega) (by omega)) (b1 8 (by omega) (by omega)), jB_c B (a2 10 (by omega)) (a2 11 (by omega)) (a2 12 (by omega)) (b2 1 (by omega)) (b2 2 (by omega)) (b2 3 (by omega)),
    fun b s q hb hs hq => by rw [a2 _ (by omega), b2 4 (by omega)]; exact Sh b s q hb hs hq, fun q hq => ?_, jR_c R (fun q _ _ => a1 q (by omega) (by omega)) (a2 32 (by omega)) (a2 33 (by omega)) (fun q _ _ => b1 q (by omega) (by omega)) (b2 16 (by omega)), jZ_c Z (a1 30 (by omega) (by omega)) (a1 31 (by omega) (by omega)), fun b s q hb hs hq => by unfold shI; rw [a2 _ (by omega)]; exact c1 b s q hb hs hq, fun r h1 h2 => by rw [a2 33 (by omega)]; exact c2 r h1 h2, fun b' hb' => ?_⟩
  · obtain ⟨m, m8, m1, m2, m3, m4⟩ := Q q hq
    rw [a1 8 (by omega) (by omega)]
    by_cases e : q = p
    · subst e
      have hm : m = k := by
        rw [hk] at m1
        exact ((nI_eq (by omega) (by omega)).mp m1).symm
      subst hm
      refine ⟨m + 1, by omega, ?_, ?_, fun w => absurd hw w, fun j hj => ?_⟩
      · rw [qapp, sI_1, if_pos ⟨rfl, rfl⟩]
      · rw [mqapp, sI_1, if_pos ⟨rfl, rfl⟩]
      · have e1 : (qapp S q m b v).1 (36 + q) j = if j = m then nI b else S.1 (36 + q) j := by
          rw [qapp, sI_q (by omega), sL_1, sI_1]
          by_cases z : j = m
          · rw [if_pos ⟨rfl, z⟩, if_pos z]
          · rw [if_neg (fun w => z w.2), if_neg z]
        have e2 : (qapp S q m b v).2 (43 + q) j = if j = m then v else S.2 (43 + q) j := by
          rw [qapp, sI_2, sL_2, sI_2]
          by_cases z : j = m
          · rw [if_pos ⟨rfl, z⟩, if_pos z]
          · rw [if_neg (fun w => z w.2), if_neg z]
        have e3 : (mqapp M q m b v).1 10 (8 * q + j) = if j = m then nI b else M.1 10 (8 * q + j) := by
          rw [mqapp, sI_q (by omega), sL_1, sI_1]
          by_cases z : j = m
          · rw [if_pos ⟨rfl, by omega⟩, if_pos z]
          · rw [if_neg (fun w => z (by omega)), if_neg z]
        have e4 : (mqapp M q m b v).2 11 (8 * q + j) = if j = m then v else M.2 11 (8 * q + j) := by
          rw [mqapp, sI_2, sL_2, sI_2]
          by_cases z : j = m
          · rw [if_pos ⟨rfl, by omega⟩, if_pos z]
          · rw [if_neg (fun w => z (by omega)), if_neg z]
        rw [e1, e2, e3, e4]
        by_cases z : j = m
        · rw [if_pos z, if_pos z, if_pos z, if_pos z]
          exact ⟨b, hb, rfl, rfl, rfl, v1, v2⟩
        · rw [if_neg z, if_neg z, if_neg z, if_neg z]
          exact m4 j (by omega)
    · refine ⟨m, m8, ?_, ?_, m3, fun j hj => ?_⟩
      · rw [qapp, sI_1, if_neg (fun z => e z.2), sL_1, sI_q (by omega)]; exact m1
      · rw [mqapp, sI_1, if_neg (fun z => e z.2), sL_1, sI_q (by omega)]; exact m2
      · rw [a1 (36 + q) (by omega) (by omega), a2 (43 + q) (by omega), mqapp, sI_q (show (10 : Nat) ≠ 9 by omega), sL_1, sI_1, if_neg (by omega), sI_2, sL_2, if_neg (by omega), sI_2]
        exact m4 j hj
  · have e : totI (qapp S p k b v) nr b' = totI S nr b' := by
      unfold totI
      have e1 : ∀ s, s < 2 → shI (qapp S p k b v) b' s = shI S b' s := fun s hs => by funext q; unfold shI; rw [a2 _ (by omega)]
      have e2 : hdI (qapp S p k b v) b' = hdI S b' := by funext r; unfold hdI; rw [a2 33 (by omega), a1 26 (by omega) (by omega)]
      rw [e1 0 (by omega), e1 1 (by omega), e2]
    rw [e]
    exact c3 b' hb'
theorem w_1e12 (v : Int64) : (!decide (v < (-1000000000000)) && decide (v ≤ 1000000000000)) = wth v (-1000000000000) 1000000000000 := by
  rw [wth]
  congr 1
  by_cases z : v ≤ 1000000000000
  · rw [decide_eq_true z, decide_eq_false (fun q => by rw [i_lt] at q; rw [i_le] at z; omega)]; rfl
  · rw [decide_eq_false z, decide_eq_true (by rw [i_le] at z; rw [i_lt]; omega)]; rfl
theorem sim_take {S M : sSt} {nb nr : Nat} (h : JJ S M nb nr (fun _ => 0)) (bb pp : Int32) (vv : Int64) : (tkF S bb pp vv).1 = (mtkF M bb pp vv).1 ∧ JJ (tkF S bb pp vv).2 (mtkF M bb pp vv).2 nb nr (fun _ => 0) ∧ (tkF S bb pp vv).2.1 8 = S.1 8 := by
  have hJ := h
  obtain ⟨K, n, P, T, B, Sh, Q, R, Z, C⟩ := h
  have nb6 := K.1
  have eg : tkG S bb pp vv = mtkG M bb pp vv := by rw [tkG, mtkG, bd_w K bb, wl_w P pp, w_1e12]
  rw [tkF, mtkF, ← eg]
  by_cases z : tkG S bb pp vv = true
  · rw [if_pos z, if_pos z]
    rw [tkG, Bool.and_eq_true, Bool.and_eq_true, Bool.and_eq_true, Bool.and_eq_true, Bool.not_eq_true', decide_eq_false_iff_not, Bool.not_eq_true', decide_eq_false_iff_not, decide_eq_true_iff, i_lt, i_le] at z
    have m1 : (-1000000000000 : Int64).toInt = -1000000000000 := by decide
    have m2 : (1000000000000 : Int64).toInt = 1000000000000 := by decide
    rw [m1, m2] at z
    obtain ⟨b, hb, eb⟩ := hbd_n K.2.2.1 K.1 z.1
    obtain ⟨p, hp, ep⟩ := wl_n z.2.1
    subst eb; subst ep
    have hw : S.1 8 p = 0 := by
      have := z.2.1
      rw [wl_nI hp] at this
      exact of_decide_eq_true this
    obtain ⟨k, k8, k1, k2, -⟩ := Q p hp
    rw [nI_clamp (show b < 2 ^ 31 by omega), nI_clamp (show p < 2 ^ 31 by omega), k1, k2, nI_clamp (show k < 2 ^ 31 by omega), tkR, mtkR, ← mv_ok hJ hb hp, (P p hp).2.1]
    by_cases c : mvOk S b p vv = true
    · rw [if_pos c, if_pos c]
      obtain ⟨Y, J1, e1⟩ := JJ_mv hJ hb hp (by omega) (by omega) c
      exact ⟨rfl, JJ_done J1 e1, rfl⟩
    · rw [if_neg c, if_neg c]
      by_cases c2 : M.1 7 p = 0
      · rw [if_pos c2, if_pos c2]
        exact ⟨rfl, JJ_ref hJ, rfl⟩
      · rw [if_neg c2, if_neg c2]
        by_cases c3 : k < 8
        · rw [if_pos c3, if_neg (show ¬ k = 8 by omega)]
          refine ⟨rfl, JJ_app hJ hp hw k1 c3 hb (by omega) (by omega), ?_⟩
          show (qapp S p k b vv).1 8 = S.1 8
          rw [qapp, sI_q (by omega), sL_1, sI_q (by omega)]
        · rw [if_neg c3, if_pos (show k = 8 by omega)]
          exact ⟨rfl, JJ_ref hJ, rfl⟩
  · rw [if_neg z, if_neg z]
    exact ⟨rfl, hJ, rfl⟩
/-- a row comes, in both -/
theorem JJ_open {S M : sSt} {nb nr b s f t : Nat} {ex : Nat → Int} {v : Int64} (h : JJ S M nb nr ex) (hb : b < nb) (hs : s < 2) (hf : f < 6) (ht : t < 6) (hv : 1 ≤ v.toInt) (hex : v.toInt ≤ ex b) (hnr : nr < 200) : JJ (ropen S nr b s f t v) (madd M nr b s f t v) nb (nr + 1) (exA ex b (-v.toInt)) := by
  obtain ⟨K, n, P, T, B, Sh, Q, R, Z, c1, c2, c3⟩ := h
  have nb6 := K.1
  have x1 : ∀ q, q ≠ 3 → (q < 26 ∨ 29 < q) → (ropen S nr b s f t v).1 q = S.1 q := fun q h1 h2 => by
    show (sI (sI (sI (sI (sI S 3 0 _) 26 _ _) 27 _ _) 28 _ _) 29 _ _).1 q = _
    rw [sI_q (by omega), sI_q (by omega), sI_q (by omega), sI_q (by omega), sI_q h1]
  have xr : ∀ q i, 26 ≤ q → q ≤ 29 → i ≠ nr + 1 → (ropen S nr b s f t v).1 q i = S.1 q i := fun q i h1 h2 h3 => by
    show (sI (sI (sI (sI (sI S 3 0 _) 26 _ _) 27 _ _) 28 _ _) 29 _ _).1 q i = _
    rw [sI_1, if_neg (fun w => h3 w.2), sI_1, if_neg (fun w => h3 w.2), sI_1, if_neg (fun w => h3 w.2), sI_1, if_neg (fun w => h3 w.2), sI_q (by omega)]
  have x2 : ∀ q, q ≠ 32 → q ≠ 33 → (ropen S nr b s f t v).2 q = S.2 q := fun q h1 h2 => by rw [ropen, sL_q h2, sL_q h1]; rfl
  have x32 : ∀ i, (ropen S nr b s f t v).2 32 i = if i = nr + 1 then v else S.2 32 i := fun i => by
    rw [ropen, sL_q (by omega), sL_2]
    by_cases z : i = nr + 1
    · rw [if_pos ⟨rfl, z⟩, if_pos z]
    · rw [if_neg (fun w => z w.2), if_neg z]; rfl
  have x33 : ∀ i, (ropen S nr b s f t v).2 33 i = if i = nr + 1 then v else S.2 33 i := fun i => by
    rw [ropen, sL_2]
    by_cases z : i = nr + 1
    · rw [if_pos ⟨rfl, z⟩, if_pos z]
    · rw [if_neg (fun w => z w.2), if_neg z, sL_q (by omega)]; rfl
  have y1 : ∀ q, q ≠ 0 → (q < 12 ∨ 19 < q) → (madd M nr b s f t v).1 q = M.1 q := fun q h1 h2 => by
    show (sI (sI (sI (sI (sI (sI (sI (sI M 0 13 _) 12 _ _) 13 _ _) 14 _ _) 15 _ _) 17 _ _) 18 _ _) 19 _ _).1 q = _
    rw [sI_q (by omega), sI_q (by omega), sI_q (by omega), sI_q (by omega), sI_q (by omega), sI_q (by omega), sI_q (by omega), sI_q h1]
  have yr : ∀ q i, 12 ≤ q → q ≤ 19 → i ≠ nr + 1 → (madd M nr b s f t v).1 q i = M.1 q i := fun q i h1 h2 h3 => by
    show (sI (sI (sI (sI (sI (sI (sI (sI M 0 13 _) 12 _ _) 13 _ _) 14 _ _) 15 _ _) 17 _ _) 18 _ _) 19 _ _).1 q i = _
    rw [sI_1, if_neg (fun w => h3 w.2), sI_1, if_neg (fun w => h3 w.2), sI_1, if_neg (fun w => h3 w.2), sI_1, if_neg (fun w => h3 w.2), sI_1, if_neg (fun w => h3 w.2), sI_1, if_neg (fun w => h3 w.2), sI_1, if_neg (fun w => h3 w.2), sI_q (by omega)]
  have y2 : ∀ q, q ≠ 16 → (madd M nr b s f t v).2 q = M.2 q := fun q h1 => by
    show (sL _ 16 (nr + 1) v).2 q = _
    rw [sL_q h1]; rfl
  have y16 : ∀ i, (madd M nr b s f t v).2 16 i = if i = nr + 1 then v else M.2 16 i := fun i => by
    show (sL _ 16 (nr + 1) v).2 16 i = _
    rw [sL_2]
    by_cases z : i = nr + 1
    · rw [if_pos ⟨rfl, z⟩, if_pos z]
    · rw [if_neg (fun w => z w.2), if_neg z]; rfl
  have y0 : ∀ j, j ≠ 13 → (madd M nr b s f t v).1 0 j = M.1 0 j := fun j hj => by
    rw [madd, sI_q (show (0 : Nat) ≠ 19 by omega), sI_q (show (0 : Nat) ≠ 18 by omega), sI_q (show (0 : Nat) ≠ 17 by omega), sL_1, sI_q (show (0 : Nat) ≠ 15 by omega), sI_q (show (0 : Nat) ≠ 14 by omega), sI_q (show (0 : Nat) ≠ 13 by omega), sI_q (show (0 : Nat) ≠ 12 by omega), sI_1, if_neg (fun w => hj w.2)]
  have n01 : ¬ (0 : Int32) = nI 1 := by decide
  refine ⟨⟨K.1, by omega, by rw [x1 2 (by omega) (by omega)]; exact K.2.2.1, by rw [y0 1 (by omega)]; exact K.2.2.2.1, rfl, rfl⟩, ?_, jP_c P (x2 6 (by omega) (by omega)) (x1 7 (by omega) (by omega)) (x1 8 (by omega) (by omega)) (y2 5 (by omega)) (y1 7 (by omega) (by omega)) (y1 6 (by omega) (by omega)), jT_c T (x1 9 (by omega) (by omega)) (y1 8 (by omega) (by omega)), jB_c B (x2 10 (by omega) (by omega)) (x2 11 (by omega) (by omega)) (x2 12 (by omega) (by omega)) (y2 1 (by omega)) (y2 2 (by omega)) (y2 3 (by omega)),
    fun b' s' p hb' hs' hp => by rw [x2 _ (by omega) (by omega), y2 4 (by omega)]; exact Sh b' s' p hb' hs' hp, jQ_c Q (x1 34 (by omega) (by omega)) (x1 8 (by omega) (by omega)) (fun p _ => x1 (36 + p) (by omega) (by omega)) (fun p _ => x2 (43 + p) (by omega) (by omega)) (y1 9 (by omega) (by omega)) (y1 10 (by omega) (by omega)) (y2 11 (by omega)), fun r g1 g2 => ?_, fun r g1 g2 => by rw [x1 30 (by omega) (by omega), x1 31 (by omega) (by omega)]; exact Z r (by omega) g2, fun b' s' p hb' hs' hp => by unfold shI; rw [x2 _ (by omega) (by omega)]; exact c1 b' s' p hb' hs' hp, fun r g1 g2 => ?_, fun b' hb' => ?_⟩
  · unfold jN
    rw [x1 0 (by omega) (by omega), y0 22 (by omega), y0 23 (by omega)]
    exact n
  · rw [x32, x33, y16, x1 30 (by omega) (by omega), x1 31 (by omega) (by omega)]
    by_cases z : r = nr + 1
    · subst z
      have hz := Z (nr + 1) (by omega) (by omega)
      rw [if_pos rfl, if_pos rfl, if_pos rfl, hz.1, hz.2]
      exact ⟨⟨b, s, f, t, hb, hs, hf, ht, by simp [ropen, sL_1, sI_1], by simp [ropen, sL_1, sI_1], by simp [ropen, sL_1, sI_1], by simp [ropen, sL_1, sI_1], by simp [madd, sL_1, sI_1], by simp [madd, sL_1, sI_1], by simp [madd, sL_1, sI_1], by simp [madd, sL_1, sI_1]⟩, by simp [madd, sL_1, sI_1]; rfl, by simp [madd, sL_1, sI_1]; rfl, rfl, hv, Or.inl ⟨by simp [madd, sL_1, sI_1]; rfl, fun w => absurd w n01, fun _ => rfl⟩⟩
    · rw [if_neg z, if_neg z, if_neg z, xr 26 r (by omega) (by omega) z, xr 27 r (by omega) (by omega) z, xr 28 r (by omega) (by omega) z, xr 29 r (by omega) (by omega) z, yr 12 r (by omega) (by omega) z, yr 13 r (by omega) (by omega) z, yr 14 r (by omega) (by omega) z, yr 15 r (by omega) (by omega) z, yr 17 r (by omega) (by omega) z, yr 18 r (by omega) (by omega) z, yr 19 r (by omega) (by omega) z]
      exact R r g1 (by omega)
  · rw [x33]
    split
    · omega
    · exact c2 r g1 (by omega)
  · have e1 : ∀ s', s' < 2 → shI (ropen S nr b s f t v) b' s' = shI S b' s' := fun s' hs' => by funext q; unfold shI; rw [x2 _ (by omega) (by omega)]
    have e2 : sN (hdI (ropen S nr b s f t v) b') (nr + 1) = sN (hdI S b') nr + (if b' = b then v.toInt else 0) := by
      rw [sN]
      congr 1
      · refine sN_congr nr (fun i hi => ?_)
        unfold hdI
        rw [xr 26 (i + 1) (by omega) (by omega) (by omega), x33, if_neg (show ¬ i + 1 = nr + 1 by omega)]
      · unfold hdI
        have z26 : (ropen S nr b s f t v).1 26 (nr + 1) = nI b := by simp [ropen, sL_1, sI_1]
        have z33 : (ropen S nr b s f t v).2 33 (nr + 1) = v := by rw [x33, if_pos rfl]
        rw [z26, z33]
        by_cases z : b' = b
        · subst z; rw [if_pos rfl, if_pos rfl]
        · rw [if_neg (fun w => z ((nI_eq (by omega) (by omega)).mp w).symm), if_neg z]
    have h3 := c3 b' hb'
    unfold totI at h3 ⊢
    rw [e1 0 (by omega), e1 1 (by omega), e2, exA]
    by_cases z : b' = b
    · subst z
      rw [if_pos rfl, if_pos rfl]
      omega
    · rw [if_neg z, if_neg z]
      omega
