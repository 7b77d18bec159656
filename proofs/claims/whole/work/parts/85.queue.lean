/-! queues: those that wait go on, in both -/
theorem qsh_L (S : sSt) (pp : Nat) (hp : pp < 6) : ∀ n, (∀ q, q ≠ 43 + pp → (qsh S pp n).2 q = S.2 q) ∧ ∀ j, (qsh S pp n).2 (43 + pp) j = if j < n then S.2 (43 + pp) (j + 1) else S.2 (43 + pp) j
  | 0 => ⟨fun _ _ => rfl, fun j => by simp [qsh]⟩
  | n + 1 => by
    obtain ⟨h1, h2⟩ := qsh_L S pp hp n
    refine ⟨fun q hq => ?_, fun j => ?_⟩
    · rw [qsh, sL_q hq, sI_2, h1 q hq]
    · rw [qsh, sL_2, sI_2, h2 (n + 1), if_neg (show ¬ (n + 1 < n) by omega)]
      by_cases h : j = n
      · subst h
        rw [if_pos ⟨rfl, rfl⟩, if_pos (by omega)]
      · rw [if_neg (fun e => h e.2), h2 j]
        by_cases h3 : j < n
        · rw [if_pos h3, if_pos (by omega)]
        · rw [if_neg h3, if_neg (by omega)]
theorem msh_L (M : sSt) (p : Nat) : ∀ n, (∀ q, q ≠ 11 → (msh M p n).2 q = M.2 q) ∧ ∀ j, (msh M p n).2 11 j = if 8 * p ≤ j ∧ j < 8 * p + n then M.2 11 (j + 1) else M.2 11 j
  | 0 => ⟨fun _ _ => rfl, fun j => by rw [if_neg (by omega)]; rfl⟩
  | n + 1 => by
    obtain ⟨h1, h2⟩ := msh_L M p n
    refine ⟨fun q hq => ?_, fun j => ?_⟩
    · rw [msh, sL_q hq, sI_2, h1 q hq]
    · rw [msh, sL_2, sI_2, h2 (8 * p + n + 1), if_neg (show ¬ (8 * p ≤ 8 * p + n + 1 ∧ 8 * p + n + 1 < 8 * p + n) by omega)]
      by_cases h : j = 8 * p + n
      · subst h
        rw [if_pos ⟨rfl, rfl⟩, if_pos (by omega)]
      · rw [if_neg (fun e => h e.2), h2 j]
        by_cases h3 : 8 * p ≤ j ∧ j < 8 * p + n
        · rw [if_pos h3, if_pos (by omega)]
        · rw [if_neg h3, if_neg (by omega)]
/-- the first one that waits is taken out, in both -/
theorem JJ_rem {S M : sSt} {nb nr p k : Nat} {ex : Nat → Int} (h : JJ S M nb nr ex) (hp : p < 6) (hk : S.1 34 p = nI (k + 1)) (hk7 : k ≤ 7) : JJ (qrem S p k) (msh (sI M 9 p (nI k)) p k) nb nr ex := by
  obtain ⟨K, n, P, T, B, Sh, Q, R, Z, c1, c2, c3⟩ := h
  have a1 : ∀ q, q ≠ 34 → q ≠ 36 + p → (qrem S p k).1 q = S.1 q := fun q h1 h2 => by rw [qrem, sI_q h1, qsh_2 S p k q h2]
  have a2 : ∀ q, q ≠ 43 + p → (qrem S p k).2 q = S.2 q := fun q h1 => by rw [qrem, sI_2, (qsh_L S p hp k).1 q h1]
  have b1 : ∀ q, q ≠ 9 → q ≠ 10 → (msh (sI M 9 p (nI k)) p k).1 q = M.1 q := fun q h1 h2 => by rw [msh_q _ p k q h2, sI_q h1]
  have b2 : ∀ q, q ≠ 11 → (msh (sI M 9 p (nI k)) p k).2 q = M.2 q := fun q h1 => by rw [(msh_L _ p k).1 q h1, sI_2]
  refine ⟨jK_c K (by rw [a1 2 (by omega) (by omega)]) (by rw [a1 3 (by omega) (by omega)]) (by rw [b1 0 (by omega) (by omega)]) (by rw [b1 0 (by omega) (by omega)]), ?_, jP_c P (a2 6 (by omega)) (a1 7 (by omega) (by omega)) (a1 8 (by omega) (by omega)) (b2 5 (by omega)) (b1 7 (by omega) (by omega)) (b1 6 (by omega) (by omega)), jT_c T (a1 9 (by omega) (by omega)) (b1 8 (by omega) (by omega)), jB_c B (a2 10 (by omega)) (a2 11 (by omega)) (a2 12 (by omega)) (b2 1 (by omega)) (b2 2 (by omega)) (b2 3 (by omega)),
    fun b s q hb hs hq => by rw [a2 _ (by omega), b2 4 (by omega)]; exact Sh b s q hb hs hq, fun q hq => ?_, jR_c R (fun q _ _ => a1 q (by omega) (by omega)) (a2 32 (by omega)) (a2 33 (by omega)) (fun q _ _ => b1 q (by omega) (by omega)) (b2 16 (by omega)), jZ_c Z (a1 30 (by omega) (by omega)) (a1 31 (by omega) (by omega)), fun b s q hb hs hq => ?_, fun r h1 h2 => by rw [a2 33 (by omega)]; exact c2 r h1 h2, fun b hb => ?_⟩
  · unfold jN
    rw [a1 0 (by omega) (by omega), b1 0 (by omega) (by omega)]
    exact n
  · obtain ⟨m, m8, m1, m2, m3, m4⟩ := Q q hq
    rw [a1 8 (by omega) (by omega)]
    by_cases e : q = p
    · subst e
      have hm : m = k + 1 := by
        rw [hk] at m1
        exact ((nI_eq (by omega) (by omega)).mp m1).symm
      subst hm
      refine ⟨k, by omega, ?_, ?_, fun hw => absurd (m3 hw) (by omega), fun j hj => ?_⟩
      · rw [qrem, sI_1, if_pos ⟨rfl, rfl⟩]
      · rw [msh_q _ q k 9 (by omega), sI_1, if_pos ⟨rfl, rfl⟩]
      · have e1 : (qrem S q k).1 (36 + q) j = S.1 (36 + q) (j + 1) := by rw [qrem, sI_1, if_neg (by omega), qsh_b, if_pos hj]
        have e2 : (qrem S q k).2 (43 + q) j = S.2 (43 + q) (j + 1) := by rw [qrem, sI_2, (qsh_L S q hq k).2, if_pos hj]
        have e3 : (msh (sI M 9 q (nI k)) q k).1 10 (8 * q + j) = M.1 10 (8 * q + (j + 1)) := by rw [msh_10, if_pos (by omega), sI_q (by omega)]; rfl
        have e4 : (msh (sI M 9 q (nI k)) q k).2 11 (8 * q + j) = M.2 11 (8 * q + (j + 1)) := by rw [(msh_L _ q k).2, if_pos (by omega), sI_2]; rfl
        rw [e1, e2, e3, e4]
        exact m4 (j + 1) (by omega)
    · refine ⟨m, m8, ?_, ?_, m3, fun j hj => ?_⟩
      · rw [qrem, sI_1, if_neg (fun z => e z.2), qsh_2 S p k 34 (by omega)]; exact m1
      · rw [msh_q _ p k 9 (by omega), sI_1, if_neg (fun z => e z.2)]; exact m2
      · rw [a1 (36 + q) (by omega) (by omega), a2 (43 + q) (by omega), msh_10, if_neg (by omega), sI_q (by omega), (msh_L _ p k).2, if_neg (by omega), sI_2]
        exact m4 j hj
  · have hb6 : b < 6 := by have := K.1; omega
    unfold shI
    rw [a2 _ (by omega)]
    exact c1 b s q hb hs hq
  · have e : totI (qrem S p k) nr b = totI S nr b := by
      have hb6 : b < 6 := by have := K.1; omega
      unfold totI
      have e1 : ∀ s, s < 2 → shI (qrem S p k) b s = shI S b s := fun s hs => by funext q; unfold shI; rw [a2 _ (by omega)]
      have e2 : hdI (qrem S p k) b = hdI S b := by funext r; unfold hdI; rw [a2 33 (by omega), a1 26 (by omega) (by omega)]
      rw [e1 0 (by omega), e1 1 (by omega), e2]
    rw [e]
    exact c3 b hb
theorem mwl_eq {S M : sSt} (h : jP S M) {p : Nat} (hp : p < 6) : mwl M (nI p) = decide (S.1 8 p = 0) := by
  have e : wth (nI p).toInt64 0 5 = true := by
    rcases (show p = 0 ∨ p = 1 ∨ p = 2 ∨ p = 3 ∨ p = 4 ∨ p = 5 by omega) with rfl | rfl | rfl | rfl | rfl | rfl <;> decide
  rw [mwl, e, nI_clamp (by omega), (h p hp).2.2.1]
  rfl
theorem wl_nI {S : sSt} {p : Nat} (hp : p < 6) : wl S (nI p) = decide (S.1 8 p = 0) := by
  have e : h6 (nI p) = true := by
    rcases (show p = 0 ∨ p = 1 ∨ p = 2 ∨ p = 3 ∨ p = 4 ∨ p = 5 by omega) with rfl | rfl | rfl | rfl | rfl | rfl <;> decide
  rw [wl, e, nI_clamp (by omega)]
  rfl
/-- one that waits is looked at: the same in both -/
theorem JJ_gf {S M : sSt} {nb nr p : Nat} {ex : Nat → Int} (h : JJ S M nb nr ex) (hp : p < 6) : gfOk S p = mgOk M p ∧ (gfOk S p = true → JJ (dnS (gfS S p)) (mgS M p) nb nr ex) := by
  have hJ := h
  obtain ⟨K, n, P, T, B, Sh, Q, R, Z, C⟩ := h
  obtain ⟨k, k8, k1, k2, k3, k4⟩ := Q p hp
  have nb6 := K.1
  cases k with
  | zero =>
    have e1 : gfOk S p = false := by
      rw [gfOk, k1]
      rfl
    have e2 : mgOk M p = false := mgOk_0 k2 rfl
    exact ⟨by rw [e1, e2], fun z => by rw [e1] at z; exact absurd z (by decide)⟩
  | succ k =>
    have hw : S.1 8 p = 0 := by
      by_cases e : S.1 8 p = 0
      · exact e
      · exact absurd (k3 e) (by omega)
    obtain ⟨b, hb, f1, f2, f3, f4, f5⟩ := k4 0 (by omega)
    have g1 := gfS_eq k1 (by omega) f1 (by omega)
    have g2 := mgS_eq k2 (by omega) f2 (by omega)
    have hok := mv_ok (v := S.2 (43 + p) 0) hJ hb hp
    have ea : gfOk S p = mvOk S b p (S.2 (43 + p) 0) := by
      rw [gfOk, g1.2, k1]
      have : decide (nI (k + 1) = 0) = false := decide_eq_false (nI_ne0 (by omega) (by omega))
      rw [this]
      rfl
    have eb : mgOk M p = mmvOk M b p (M.2 11 (8 * p)) := by
      rw [mgOk, g2.2, mwl_eq P hp, decide_eq_true hw, k2]
      have : decide (nI (k + 1) ≤ 0) = false := decide_eq_false (nI_nle (by omega) (by omega))
      rw [this]
      rfl
    have f3' : S.2 (43 + p) 0 = M.2 11 (8 * p) := f3
    refine ⟨by rw [ea, eb, hok, f3'], fun hg => ?_⟩
    rw [ea] at hg
    obtain ⟨Y, J1, eY⟩ := JJ_mv hJ hb hp f4 f5 hg
    have J2 := JJ_rem (k := k) J1 hp (by rw [mvS_1]; exact k1) (by omega)
    rw [g1.1, g2.1, mgY, ← f3', eY]
    refine JJ_agree J2 (fun q hq => ?_) ?_ (fun q hq => ?_) ?_ ?_ ?_ ?_
    · rw [dnS, sI_q hq]
    · rfl
    · by_cases e : q = 10
      · subst e
        funext j
        rw [msh_10, msh_10]
        have z : ∀ i, (sI (sI Y 0 22 (Y.1 0 22 + nI 1)) 9 p (nI k)).1 10 i = (sI Y 9 p (nI k)).1 10 i := fun i => by rw [sI_q (by omega), sI_q (by omega), sI_q (by omega)]
        rw [z, z]
      · rw [msh_q _ p k q e, msh_q _ p k q e]
        funext j
        simp only [sI_1]
        rw [if_neg (show ¬ (q = 0 ∧ j = 22) from fun z => hq z.1)]
    · funext q j
      by_cases e : q = 11
      · subst e
        rw [(msh_L _ p k).2, (msh_L _ p k).2]
        rfl
      · rw [(msh_L _ p k).1 q e, (msh_L _ p k).1 q e]
        rfl
    · rw [msh_q _ p k 0 (by omega), msh_q _ p k 0 (by omega)]
      simp [sI_1]
    · rw [msh_q _ p k 0 (by omega), msh_q _ p k 0 (by omega)]
      simp [sI_1]
    · have hn := J2.2.1
      unfold jN at hn ⊢
      rw [msh_q _ p k 0 (by omega), sI_q (by omega)] at hn
      rw [msh_q _ p k 0 (by omega), sI_q (by omega), sI_1, if_pos ⟨rfl, rfl⟩, sI_1, if_neg (by omega), dnS, sI_1, if_pos ⟨rfl, rfl⟩, sI_1, if_neg (by omega), hn.1]
      exact ⟨rfl, hn.2⟩
