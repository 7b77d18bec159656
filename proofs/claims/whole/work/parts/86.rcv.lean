/-! something comes: both wake the same -/
theorem gf_len {S : sSt} {p k : Nat} (h1 : S.1 34 p = nI (k + 1)) (hk : k ≤ 7) : (dnS (gfS S p)).1 34 p = nI k := by
  have e : gfS S p = qrem (mvS S (gfB S p) p (S.2 (43 + p) 0)) p k := by
    rw [gfS, h1, nI_clamp (by omega)]
    rfl
  rw [e, dnS, sI_q (show (34 : Nat) ≠ 0 by omega), qrem, sI_1, if_pos ⟨rfl, rfl⟩]
theorem JJ_wake {nb nr p : Nat} {ex : Nat → Int} (hp : p < 6) : ∀ (k m m' : Nat) (S M : sSt), JJ S M nb nr ex → S.1 34 p = nI k → k ≤ m → k ≤ m' → k ≤ 8 → JJ (rcvL p m S) (cmL p m' M) nb nr ex
  | 0, m, m', S, M, h, hk, _, _, _ => by
    have g := (JJ_gf h hp).1
    have e : gfOk S p = false := by rw [gfOk, hk]; rfl
    have e1 : rcvL p m S = S := by
      cases m with
      | zero => rfl
      | succ m => rw [rcvL, if_neg (by rw [e]; decide)]
    have e2 : cmL p m' M = M := by
      cases m' with
      | zero => rfl
      | succ m => rw [cmL, if_neg (by rw [← g, e]; decide)]
    rw [e1, e2]
    exact h
  | k + 1, 0, _, _, _, _, _, h, _, _ => absurd h (by omega)
  | k + 1, _ + 1, 0, _, _, _, _, _, h, _ => absurd h (by omega)
  | k + 1, m + 1, m' + 1, S, M, h, hk, h1, h2, h3 => by
    obtain ⟨g1, g2⟩ := JJ_gf h hp
    rw [rcvL, cmL, ← g1]
    by_cases e : gfOk S p = true
    · rw [if_pos e, if_pos e]
      exact JJ_wake hp k m m' _ _ (g2 e) (gf_len hk (by omega)) (by omega) (by omega) (by omega)
    · rw [if_neg e, if_neg e]
      exact h
theorem JJ_wake8 {S M : sSt} {nb nr p : Nat} {ex : Nat → Int} (h : JJ S M nb nr ex) (hp : p < 6) : JJ (rcvL p 8 S) (cmL p 9 M) nb nr ex := by
  obtain ⟨k, k8, k1, -⟩ := h.2.2.2.2.2.2.1 p hp
  exact JJ_wake hp k 8 9 S M h k1 k8 (by omega) k8
/-- v more of a share, in both -/
theorem JJ_add {S M : sSt} {nb nr b s p : Nat} {ex : Nat → Int} {v : Int64} (h : JJ S M nb nr ex) (hb : b < nb) (hs : s < 2) (hp : p < 6) (h0 : 0 ≤ v.toInt) (h1 : v.toInt ≤ ex b) : JJ (addSh S (b * 2 + s) p v) (sL M 4 (12 * b + 6 * s + p) (M.2 4 (12 * b + 6 * s + p) + v)) nb nr (exA ex b (-v.toInt)) := by
  have q := JJ_sh h hb hs hp
  have hb6 : b < 6 := by have := h.1.1; omega
  have e := h.2.2.2.2.2.1 b s p hb6 hs hp
  have x : (S.2 (14 + (b * 2 + s)) p + v).toInt = shI S b s p + v.toInt := by
    unfold shI at q ⊢
    exact i_add (by omega) (by omega)
  rw [addSh, ← e]
  refine JJ_ex (JJ_set (x := S.2 (14 + (b * 2 + s)) p + v) h hb hs hp (by omega) (by omega)) (fun b' hb' => ?_)
  unfold exA
  split
  · omega
  · rfl
theorem JJ_rcv {S M : sSt} {nb nr b s p : Nat} {ex : Nat → Int} {v : Int64} (h : JJ S M nb nr ex) (hb : b < nb) (hs : s < 2) (hp : p < 6) (h0 : 0 < v.toInt) (h1 : v.toInt ≤ ex b) : JJ (rcvF S b s p v) (cmL p 9 (sL M 4 (12 * b + 6 * s + p) (M.2 4 (12 * b + 6 * s + p) + v))) nb nr (exA ex b (-v.toInt)) := by
  rw [rcvF, if_pos (by rw [i_lt, i_0]; exact h0)]
  exact JJ_wake8 (JJ_add h hb hs hp (by omega) h1) hp
/-- what receiving leaves alone -/
theorem mvS_o (S : sSt) (b p : Nat) (v : Int64) (q : Nat) (h1 : q ≠ 11) (h2 : q ≠ 14 + (b * 2 + 0)) (h3 : q ≠ 14 + (b * 2 + 1)) : (mvS S b p v).2 q = S.2 q := by
  rw [mvS, sL_q h1, addSh, sL_q h3, addSh, sL_q h2]
theorem gfS_o {S M : sSt} {nb nr p q : Nat} {ex : Nat → Int} (h : JJ S M nb nr ex) (hp : p < 6) (ho : gfOk S p = true) (hq : 49 ≤ q) : (dnS (gfS S p)).2 q = S.2 q ∧ (dnS (gfS S p)).1 8 = S.1 8 := by
  obtain ⟨K, n, P, T, B, Sh, Q, R, Z, C⟩ := h
  obtain ⟨k, k8, k1, k2, k3, k4⟩ := Q p hp
  cases k with
  | zero =>
    have e1 : gfOk S p = false := by rw [gfOk, k1]; rfl
    rw [e1] at ho
    exact absurd ho (by decide)
  | succ k =>
    obtain ⟨b, hb, f1, -⟩ := k4 0 (by omega)
    have nb6 := K.1
    have g1 := gfS_eq k1 (by omega) f1 (by omega)
    rw [g1.1]
    refine ⟨?_, ?_⟩
    · rw [dnS, sI_2, qrem, sI_2, (qsh_L _ p hp k).1 q (by omega), mvS_o S b p _ q (by omega) (by omega) (by omega)]
    · rw [dnS, sI_q (by omega), qrem, sI_q (by omega), qsh_2 _ p k 8 (by omega), mvS_1]
theorem rcvL_o {nb nr p q : Nat} {ex : Nat → Int} (hp : p < 6) (hq : 49 ≤ q) : ∀ (m : Nat) (S M : sSt), JJ S M nb nr ex → (rcvL p m S).2 q = S.2 q ∧ (rcvL p m S).1 8 = S.1 8
  | 0, _, _, _ => ⟨rfl, rfl⟩
  | m + 1, S, M, h => by
    rw [rcvL]
    split
    · have g := gfS_o h hp ‹_› hq
      have ih := rcvL_o hp hq m _ _ ((JJ_gf h hp).2 ‹_›)
      exact ⟨ih.1.trans g.1, ih.2.trans g.2⟩
    · exact ⟨rfl, rfl⟩
theorem mgS_o (M : sSt) (p q : Nat) (hq : 12 ≤ q) : (mgS M p).2 q = M.2 q := by
  rw [mgS, (msh_L _ p _).1 q (by omega), mgY, sI_2, mmvS]
  split <;> rw [mmv2, sI_2, sL_q (by omega), mmv1, sL_q (by omega), sL_q (by omega)]
theorem cmL_o (p q : Nat) (hq : 12 ≤ q) : ∀ (m : Nat) (M : sSt), (cmL p m M).2 q = M.2 q
  | 0, _ => rfl
  | m + 1, M => by
    rw [cmL]
    split
    · rw [cmL_o p q hq m, mgS_o M p q hq]
    · rfl
theorem JJ_scr {S M S' M' : sSt} {nb nr : Nat} {ex : Nat → Int} (h : JJ S M nb nr ex) (a1 : ∀ q, S'.1 q = S.1 q) (a2 : ∀ q, q < 49 → S'.2 q = S.2 q) (b1 : ∀ q, q ≠ 22 → M'.1 q = M.1 q) (b2 : ∀ q, q < 20 → M'.2 q = M.2 q) : JJ S' M' nb nr ex := by
  obtain ⟨k, n, P, T, B, Sh, Q, R, Z, c1, c2, c3⟩ := h
  have nb6 := k.1
  refine ⟨jK_c k (by rw [a1]) (by rw [a1]) (by rw [b1 0 (by omega)]) (by rw [b1 0 (by omega)]), by unfold jN; rw [a1, b1 0 (by omega)]; exact n, jP_c P (a2 6 (by omega)) (a1 7) (a1 8) (b2 5 (by omega)) (b1 7 (by omega)) (b1 6 (by omega)), jT_c T (a1 9) (b1 8 (by omega)), jB_c B (a2 10 (by omega)) (a2 11 (by omega)) (a2 12 (by omega)) (b2 1 (by omega)) (b2 2 (by omega)) (b2 3 (by omega)), fun b s p hb hs hp => by rw [a2 _ (by omega), b2 4 (by omega)]; exact Sh b s p hb hs hp,
    jQ_c Q (a1 34) (a1 8) (fun p _ => a1 (36 + p)) (fun p hp => a2 (43 + p) (by omega)) (b1 9 (by omega)) (b1 10 (by omega)) (b2 11 (by omega)), jR_c R (fun q _ _ => a1 q) (a2 32 (by omega)) (a2 33 (by omega)) (fun q _ _ => b1 q (by omega)) (b2 16 (by omega)), jZ_c Z (a1 30) (a1 31), fun b s p hb hs hp => by unfold shI; rw [a2 _ (by omega)]; exact c1 b s p hb hs hp, fun r h1 h2 => by rw [a2 33 (by omega)]; exact c2 r h1 h2, fun b hb => ?_⟩
  have e : totI S' nr b = totI S nr b := by
    unfold totI
    have e1 : ∀ s, s < 2 → shI S' b s = shI S b s := fun s hs => by funext p; unfold shI; rw [a2 _ (by omega)]
    have e2 : hdI S' b = hdI S b := by funext r; unfold hdI; rw [a2 33 (by omega), a1]
    rw [e1 0 (by omega), e1 1 (by omega), e2]
  rw [e]
  exact c3 b hb
/-- the parts are handed out, in both -/
theorem JJ_parts {S M : sSt} {nb nr b s : Nat} {ex : Nat → Int} (h : JJ S M nb nr ex) (hb : b < nb) (hs : s < 2) (hp : ∀ p, p < 6 → S.2 50 p = M.2 20 p) (h0 : ∀ p, p < 6 → 0 ≤ (S.2 50 p).toInt) (hx : sN (fun p => (S.2 50 p).toInt) 6 ≤ ex b) :
    ∀ n, n ≤ 6 → JJ (rcvP b s S n) (mrcP b s M n) nb nr (exA ex b (-sN (fun p => (S.2 50 p).toInt) n)) ∧ (∀ q, 49 ≤ q → (rcvP b s S n).2 q = S.2 q) ∧ (rcvP b s S n).1 8 = S.1 8 ∧ (∀ q, 12 ≤ q → (mrcP b s M n).2 q = M.2 q)
  | 0, _ => by
    refine ⟨JJ_ex h (fun b' hb' => ?_), fun _ _ => rfl, rfl, fun _ _ => rfl⟩
    unfold exA
    rw [sN]
    split
    · omega
    · rfl
  | n + 1, hn => by
    obtain ⟨J, e1, e2, e3⟩ := JJ_parts h hb hs hp h0 hx n (by omega)
    have m1 := sN_mono (f := fun p => (S.2 50 p).toInt) (n := n + 1) 6 hn h0
    rw [sN] at m1
    have f1 : (rcvP b s S n).2 50 n = S.2 50 n := by rw [e1 50 (by omega)]
    have f2 : (mrcP b s M n).2 20 n = S.2 50 n := by rw [e3 20 (by omega), hp n (by omega)]
    rw [rcvP, mrcP, f1, f2]
    have p0 := h0 n (by omega)
    by_cases e : S.2 50 n = 0
    · have z : (S.2 50 n).toInt = 0 := by rw [e, i_0]
      rw [if_pos e, rcvF, if_neg (by rw [i_lt, i_0]; omega)]
      refine ⟨JJ_ex J (fun b' hb' => ?_), e1, e2, e3⟩
      unfold exA
      rw [sN]
      split
      · omega
      · rfl
    · have z : 0 < (S.2 50 n).toInt := by
        rcases Int.lt_or_le 0 (S.2 50 n).toInt with q | q
        · exact q
        · exact absurd (i_eq (show (S.2 50 n).toInt = (0 : Int64).toInt by rw [i_0]; omega)) e
      rw [if_neg e]
      have hxe : (S.2 50 n).toInt ≤ exA ex b (-sN (fun p => (S.2 50 p).toInt) n) b := by
        unfold exA
        rw [if_pos rfl]
        omega
      have J2 := JJ_rcv J hb hs (show n < 6 by omega) z hxe
      have J1 := JJ_add J hb hs (show n < 6 by omega) (by omega) hxe
      have hrc : rcvF (rcvP b s S n) b s n (S.2 50 n) = rcvL n 8 (addSh (rcvP b s S n) (b * 2 + s) n (S.2 50 n)) := by rw [rcvF, if_pos (by rw [i_lt, i_0]; exact z)]
      have nb6 := h.1.1
      refine ⟨JJ_ex J2 (fun b' hb' => ?_), fun q hq => ?_, ?_, fun q hq => ?_⟩
      · unfold exA
        rw [sN]
        split
        · omega
        · rfl
      · rw [hrc, (rcvL_o (show n < 6 by omega) hq 8 _ _ J1).1, addSh, sL_q (by omega), e1 q hq]
      · rw [hrc, (rcvL_o (show n < 6 by omega) (show 49 ≤ 49 by omega) 8 _ _ J1).2]
        exact e2
      · rw [cmL_o n q hq, sL_q (by omega), e3 q hq]
