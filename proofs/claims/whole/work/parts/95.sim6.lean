/-! bound, in both -/
def bdS (S : sSt) (nb : Nat) (fl va ce : Int64) : sSt := setSh (splF (setSh (splF (bopen (uow S 6) nb fl va ce) (va - fl)) (nb * 2 + 0) 6) (ce - va)) (nb * 2 + 1) 6
theorem setSh_p (S : sSt) (k : Nat) (hk : k < 12) : ∀ n, (setSh S k n).1 = S.1 ∧ (∀ q, q ≠ 14 + k → (setSh S k n).2 q = S.2 q) ∧ ∀ p, (setSh S k n).2 (14 + k) p = if p < n then S.2 50 p else S.2 (14 + k) p
  | 0 => ⟨rfl, fun _ _ => rfl, fun p => by rw [if_neg (by omega)]; rfl⟩
  | n + 1 => by
    obtain ⟨h1, h2, h3⟩ := setSh_p S k hk n
    refine ⟨h1, fun q hq => by rw [setSh, sL_q hq, h2 q hq], fun p => ?_⟩
    rw [setSh, sL_2, h2 50 (by omega)]
    by_cases e : p = n
    · subst e
      rw [if_pos ⟨rfl, rfl⟩, if_pos (by omega)]
    · rw [if_neg (fun z => e z.2), h3 p]
      by_cases z : p < n
      · rw [if_pos z, if_pos (by omega)]
      · rw [if_neg z, if_neg (by omega)]
theorem mcp_p (nb s : Nat) (M : sSt) : ∀ n, (∀ q, q ≠ 4 → (mcp nb s M n).2 q = M.2 q) ∧ ∀ i, (mcp nb s M n).2 4 i = if 12 * nb + 6 * s ≤ i ∧ i < 12 * nb + 6 * s + n then M.2 20 (i - (12 * nb + 6 * s)) else M.2 4 i
  | 0 => ⟨fun _ _ => rfl, fun i => by rw [if_neg (by omega)]; rfl⟩
  | n + 1 => by
    obtain ⟨h2, h3⟩ := mcp_p nb s M n
    refine ⟨fun q hq => by rw [mcp, sL_q hq, h2 q hq], fun i => ?_⟩
    rw [mcp, sL_2, h2 20 (by omega)]
    by_cases e : i = 12 * nb + 6 * s + n
    · subst e
      rw [if_pos ⟨rfl, rfl⟩, if_pos (by omega), show 12 * nb + 6 * s + n - (12 * nb + 6 * s) = n by omega]
    · rw [if_neg (fun z => e z.2), h3 i]
      by_cases z : 12 * nb + 6 * s ≤ i ∧ i < 12 * nb + 6 * s + n
      · rw [if_pos z, if_pos (by omega)]
      · rw [if_neg z, if_neg (by omega)]
theorem uow_p {S M : sSt} (hP : jP S M) : ∀ n, n ≤ 6 → (∀ q, q ≠ 49 → (uow S n).2 q = S.2 q) ∧ ∀ p, p < n → (uow S n).2 49 p = mown M false p
  | 0, _ => ⟨fun _ _ => rfl, fun p hp => absurd hp (Nat.not_lt_zero p)⟩
  | n + 1, hn => by
    obtain ⟨h1, h2⟩ := uow_p hP n (by omega)
    refine ⟨fun q hq => by rw [uow, sL_q hq, h1 q hq], fun p hp => ?_⟩
    rw [uow, sL_2]
    by_cases e : p = n
    · subst e
      have hw : wl (uow S p) (nI p) = mwl M (nI p) := by rw [← wl_w hP (nI p), wl, wl, uow_1]
      rw [if_pos ⟨rfl, rfl⟩, hw, h1 6 (by omega), mown, (hP p (by omega)).1, if_pos (show false = false from rfl)]
    · rw [if_neg (fun z => e z.2)]
      exact h2 p (by omega)
theorem ord_w (fl va ce : Int64) : ordOk fl va ce = mbG fl va ce := by
  have e : ∀ d : Int64, rmOk d = !(decide (d < 0) || !decide (d ≤ 1000000000000)) := fun d => by
    rw [rmOk]
    by_cases z : d ≤ 1000000000000
    · rw [decide_eq_true z, decide_eq_false (show ¬ 1000000000000 < d from fun q => by rw [i_lt] at q; rw [i_le] at z; omega)]
      simp
    · rw [decide_eq_false z, decide_eq_true (show 1000000000000 < d by rw [i_le] at z; rw [i_lt]; omega)]
      simp
  rw [ordOk, mbG, e, e]
  rfl
theorem rm_n {d : Int64} (h : rmOk d = true) : 0 ≤ d.toInt ∧ d.toInt ≤ 1000000000000 := by
  have m2 : (1000000000000 : Int64).toInt = 1000000000000 := by decide
  rw [rmOk, Bool.and_eq_true, Bool.not_eq_true', Bool.not_eq_true', decide_eq_false_iff_not, decide_eq_false_iff_not, i_lt, i_lt, i_0, m2] at h
  omega
theorem all_w {S M : sSt} (hP : jP S M) : sumW (uow S 6) 6 = mall M false 6 ∧ ∀ p, p < 6 → 0 ≤ ((uow S 6).2 49 p).toInt ∧ ((uow S 6).2 49 p).toInt ≤ 1000000 := by
  have h2 := (uow_p hP 6 (by omega)).2
  refine ⟨(mall_eq (uow S 6) M false h2 6 (by omega)).symm, fun p hp => ?_⟩
  rw [h2 p hp, mown]
  split
  · rw [i_0]; omega
  · rw [if_pos rfl, ← (hP p hp).1]
    exact (hP p hp).2.2.2
theorem sim_bound {S M : sSt} {nb nr : Nat} (h : JJ S M nb nr (fun _ => 0)) {fl va ce : Int64} (hg : ordOk fl va ce = true) (hne : ¬ mall M false 6 = 0) (hnb : nb < 6) :
    JJ (bdS S nb fl va ce) (sI (mbs (mb0 M nb fl va ce) nb fl va ce 2) 0 1 (nI (nb + 1))) (nb + 1) nr (fun _ => 0) ∧ (∀ j, j < 2 → mspG (mbs (mb0 M nb fl va ce) nb fl va ce j) (mbr fl va ce j) false) ∧ (bdS S nb fl va ce).1 8 = S.1 8 := by
  obtain ⟨K, n, P, T, B, Sh, Q, R, Z, c1, c2, c3⟩ := h
  obtain ⟨ea, hb6⟩ := all_w P
  rw [ordOk, Bool.and_eq_true, Bool.and_eq_true, Bool.and_eq_true] at hg
  have rd := rm_n hg.2.2.1
  have ru := rm_n hg.2.2.2
  have u2 := (uow_p P 6 (by omega)).2
  have u1 := (uow_p P 6 (by omega)).1
  -- the class's states
  generalize hA0 : bopen (uow S 6) nb fl va ce = A0
  have a0_1 : ∀ q, q ≠ 2 → A0.1 q = S.1 q := fun q hq => by rw [← hA0, bopen, sI_q hq, sL_1, sL_1, sL_1, uow_1]
  have a0_c : A0.1 2 0 = nI (nb + 1) := by rw [← hA0, bopen, sI_1, if_pos ⟨rfl, rfl⟩]
  have a0_2 : ∀ q, q ≠ 10 → q ≠ 11 → q ≠ 12 → A0.2 q = (uow S 6).2 q := fun q e1 e2 e3 => by rw [← hA0, bopen, sI_2, sL_q e3, sL_q e2, sL_q e1]
  have a0_49 : A0.2 49 = (uow S 6).2 49 := a0_2 49 (by omega) (by omega) (by omega)
  have hpos : ∀ X : sSt, X.2 49 = (uow S 6).2 49 → 0 < sumW X 6 := fun X hX => by
    have hs : sumW X 6 = sumW (uow S 6) 6 := by
      have : ∀ n, sumW X n = sumW (uow S 6) n := fun n => by
        induction n with
        | zero => rfl
        | succ n ih => rw [sumW, sumW, ih, hX]
      exact this 6
    rw [hs, i_lt, i_0]
    have := (sumW_int (uow S 6) hb6 6 (by omega)).2.1
    have hz : ¬ (sumW (uow S 6) 6).toInt = 0 := fun q => hne (by rw [← ea]; exact i_eq (by rw [q, i_0]))
    omega
  have hsp : ∀ (X : sSt) (r : Int64), X.2 49 = (uow S 6).2 49 → 0 ≤ r.toInt → r.toInt ≤ 1000000000000 → spW (X.2 49) r := fun X r hX h0 h1 => by
    rw [hX]
    refine ⟨hb6, h0, by omega, fun p hp => ?_⟩
    have q1 := Int.mul_le_mul_of_nonneg_left (hb6 p hp).2 h0
    have q2 : r.toInt * 1000000 ≤ 1000000000000 * 1000000 := Int.mul_le_mul_of_nonneg_right h1 (by omega)
    omega
  have hown : ∀ (X Y : sSt), X.2 49 = (uow S 6).2 49 → Y.1 6 = M.1 6 → Y.2 5 = M.2 5 → ∀ p, p < 6 → X.2 49 p = mown Y false p := fun X Y hX h6 h5 p hp => by
    rw [hX, u2 p hp, mown_eq h6 h5]
  -- the first side
  generalize hB0 : mb0 M nb fl va ce = B0
  have b0_1 : ∀ q, q ≠ 0 → B0.1 q = M.1 q := fun q hq => by
    rw [← hB0, mb0, sL_1, sL_1, sL_1, mt0, sI_q hq]
  have b0_0 : ∀ j, j ≠ 0 → B0.1 0 j = M.1 0 j := fun j hj => by
    rw [← hB0, mb0, sL_1, sL_1, sL_1, mt0, sI_1, if_neg (fun z => hj z.2)]
  have b0_2 : ∀ q, q ≠ 1 → q ≠ 2 → q ≠ 3 → B0.2 q = M.2 q := fun q e1 e2 e3 => by
    rw [← hB0, mb0, sL_q e3, sL_q e2, sL_q e1]
    rfl
  obtain ⟨g1, g2, g3, g4⟩ := split_eq (M := B0) (b0 := false) (hown A0 B0 a0_49 (b0_1 6 (by omega)) (b0_2 5 (by omega) (by omega) (by omega))) (hsp A0 (va - fl) a0_49 rd.1 rd.2) (hpos A0 a0_49)
  generalize hA1 : splF A0 (va - fl) = A1 at g2 g3 g4
  have a1_1 : A1.1 = A0.1 := by rw [← hA1, splF_1]
  have a1_2 : ∀ q, q ≠ 50 → q ≠ 51 → A1.2 q = A0.2 q := fun q e1 e2 => by rw [← hA1, splF_o _ _ q e1 e2]
  obtain ⟨s1, s2, s3⟩ := setSh_p A1 (nb * 2 + 0) (by omega) 6
  generalize hA2 : setSh A1 (nb * 2 + 0) 6 = A2 at s1 s2 s3
  generalize hB1 : msplF B0 (va - fl) false = B1 at g2
  have b1_1 : ∀ q, q ≠ 22 → B1.1 q = B0.1 q := fun q e1 => by rw [← hB1, msplF_q _ _ _ q e1]
  have b1_2 : ∀ q, q ≠ 20 → q ≠ 21 → B1.2 q = B0.2 q := fun q e1 e2 => by rw [← hB1, msplF_o _ _ _ q e1 e2]
  have hm1 : mbs B0 nb fl va ce 1 = mcp nb 0 B1 6 := by rw [mbs, mbs, mbr, if_pos rfl, hB1]
  have t1 := mcp_1 nb 0 B1 6
  obtain ⟨t2, t3⟩ := mcp_p nb 0 B1 6
  generalize hB2 : mcp nb 0 B1 6 = B2 at t1 t2 t3 hm1
  -- the second side
  have a2_49 : A2.2 49 = (uow S 6).2 49 := by rw [s2 49 (by omega), a1_2 49 (by omega) (by omega), a0_49]
  have b2_6 : B2.1 6 = M.1 6 := by rw [t1, b1_1 6 (by omega), b0_1 6 (by omega)]
  have b2_5 : B2.2 5 = M.2 5 := by rw [t2 5 (by omega), b1_2 5 (by omega) (by omega), b0_2 5 (by omega) (by omega) (by omega)]
  obtain ⟨k1, k2, k3, k4⟩ := split_eq (M := B2) (b0 := false) (hown A2 B2 a2_49 b2_6 b2_5) (hsp A2 (ce - va) a2_49 ru.1 ru.2) (hpos A2 a2_49)
  generalize hA3 : splF A2 (ce - va) = A3 at k2 k3 k4
  have a3_1 : A3.1 = A2.1 := by rw [← hA3, splF_1]
  have a3_2 : ∀ q, q ≠ 50 → q ≠ 51 → A3.2 q = A2.2 q := fun q e1 e2 => by rw [← hA3, splF_o _ _ q e1 e2]
  obtain ⟨v1, v2, v3⟩ := setSh_p A3 (nb * 2 + 1) (by omega) 6
  have hbd : bdS S nb fl va ce = setSh A3 (nb * 2 + 1) 6 := by rw [bdS, hA0, hA1, hA2, hA3]
  generalize hA4 : setSh A3 (nb * 2 + 1) 6 = A4 at v1 v2 v3 hbd
  generalize hB3 : msplF B2 (ce - va) false = B3 at k2
  have b3_1 : ∀ q, q ≠ 22 → B3.1 q = B2.1 q := fun q e1 => by rw [← hB3, msplF_q _ _ _ q e1]
  have b3_2 : ∀ q, q ≠ 20 → q ≠ 21 → B3.2 q = B2.2 q := fun q e1 e2 => by rw [← hB3, msplF_o _ _ _ q e1 e2]
  have hm2 : mbs B0 nb fl va ce 2 = mcp nb 1 B3 6 := by rw [mbs, hm1, mbr, if_neg (by omega), hB3]
  have w1 := mcp_1 nb 1 B3 6
  obtain ⟨w2, w3⟩ := mcp_p nb 1 B3 6
  generalize hB4 : mcp nb 1 B3 6 = B4 at w1 w2 w3 hm2
  rw [hbd, hm2]
  -- all places of the class behind it
  have x1 : ∀ q, q ≠ 2 → A4.1 q = S.1 q := fun q hq => by rw [v1, a3_1, s1, a1_1, a0_1 q hq]
  have x2 : ∀ q, q ≠ 10 → q ≠ 11 → q ≠ 12 → q < 49 → q ≠ 14 + (nb * 2 + 0) → q ≠ 14 + (nb * 2 + 1) → A4.2 q = S.2 q := fun q e1 e2 e3 e4 e5 e6 => by
    rw [v2 q e6, a3_2 q (by omega) (by omega), s2 q e5, a1_2 q (by omega) (by omega), a0_2 q e1 e2 e3, u1 q (by omega)]
  have xb : ∀ q, q = 10 ∨ q = 11 ∨ q = 12 → A4.2 q = A0.2 q := fun q hq => by
    rw [v2 q (by omega), a3_2 q (by omega) (by omega), s2 q (by omega), a1_2 q (by omega) (by omega)]
  have xd : ∀ p, p < 6 → A4.2 (14 + (nb * 2 + 0)) p = A1.2 50 p := fun p hp => by
    rw [v2 _ (by omega), a3_2 _ (by omega) (by omega), s3, if_pos hp]
  have xu : ∀ p, p < 6 → A4.2 (14 + (nb * 2 + 1)) p = A3.2 50 p := fun p hp => by rw [v3, if_pos hp]
  have y1 : ∀ q, q ≠ 0 → q ≠ 22 → (sI B4 0 1 (nI (nb + 1))).1 q = M.1 q := fun q e1 e2 => by
    rw [sI_q e1, w1, b3_1 q e2, t1, b1_1 q e2, b0_1 q e1]
  have y0 : ∀ j, j ≠ 0 → j ≠ 1 → (sI B4 0 1 (nI (nb + 1))).1 0 j = M.1 0 j := fun j e0 e1 => by
    rw [sI_1, if_neg (fun z => e1 z.2), w1, b3_1 0 (by omega), t1, b1_1 0 (by omega), b0_0 j e0]
  have y2 : ∀ q, q < 20 → q ≠ 1 → q ≠ 2 → q ≠ 3 → q ≠ 4 → B4.2 q = M.2 q := fun q e0 e1 e2 e3 e4 => by
    rw [w2 q e4, b3_2 q (by omega) (by omega), t2 q e4, b1_2 q (by omega) (by omega), b0_2 q e1 e2 e3]
  have yb : ∀ q, q = 1 ∨ q = 2 ∨ q = 3 → B4.2 q = B0.2 q := fun q hq => by
    rw [w2 q (by omega), b3_2 q (by omega) (by omega), t2 q (by omega), b1_2 q (by omega) (by omega)]
  have ys : ∀ i, B4.2 4 i = if 12 * nb + 6 * 1 ≤ i ∧ i < 12 * nb + 6 * 1 + 6 then B3.2 20 (i - (12 * nb + 6 * 1)) else if 12 * nb + 6 * 0 ≤ i ∧ i < 12 * nb + 6 * 0 + 6 then B1.2 20 (i - (12 * nb + 6 * 0)) else M.2 4 i := fun i => by
    rw [w3, b3_2 4 (by omega) (by omega), t3, b1_2 4 (by omega) (by omega), b0_2 4 (by omega) (by omega) (by omega)]
  have hnew : ∀ r, 1 ≤ r → r ≤ nr → ¬ S.1 26 r = nI nb := fun r h1 h2 q => by
    obtain ⟨⟨b, s, f, t, hb, hs, hf, ht, r26, -⟩, -⟩ := R r h1 h2
    rw [r26] at q
    have := (nI_eq (by omega) (by omega)).mp q
    omega
  have e26 : A4.1 26 = S.1 26 := x1 26 (by omega)
  have e33 : A4.2 33 = S.2 33 := x2 33 (by omega) (by omega) (by omega) (by omega) (by omega) (by omega)
  have ehd : ∀ b, hdI A4 b = hdI S b := fun b => by funext r; unfold hdI; rw [e26, e33]
  refine ⟨⟨⟨by omega, K.2.1, by rw [v1, a3_1, s1, a1_1]; exact a0_c, by rw [sI_1, if_pos ⟨rfl, rfl⟩], by rw [x1 3 (by omega)]; exact K.2.2.2.2.1, by rw [y0 13 (by omega) (by omega)]; exact K.2.2.2.2.2⟩, ?_, jP_c P (x2 6 (by omega) (by omega) (by omega) (by omega) (by omega) (by omega)) (x1 7 (by omega)) (x1 8 (by omega)) (y2 5 (by omega) (by omega) (by omega) (by omega) (by omega)) (y1 7 (by omega) (by omega)) (y1 6 (by omega) (by omega)), jT_c T (x1 9 (by omega)) (y1 8 (by omega) (by omega)), fun b hb => ?_, fun b s p hb hs hp => ?_, fun p hp => ?_, fun r h1 h2 => ?_, jZ_c Z (x1 30 (by omega)) (x1 31 (by omega)), fun b s p hb hs hp => ?_, fun r h1 h2 => by rw [e33]; exact c2 r h1 h2, fun b hb => ?_⟩, fun j hj => ?_, x1 8 (by omega)⟩
  · unfold jN
    rw [x1 0 (by omega), y0 22 (by omega) (by omega), y0 23 (by omega) (by omega)]
    exact n
  · have hB := B b hb
    rw [sI_2, xb 10 (by omega), xb 11 (by omega), xb 12 (by omega), yb 1 (by omega), yb 2 (by omega), yb 3 (by omega), ← hA0, ← hB0, bopen, mb0, sI_2]
    have f10 : (sL (sL (sL (uow S 6) 10 nb fl) 11 nb va) 12 nb ce).2 10 b = if b = nb then fl else S.2 10 b := by
      rw [sL_q (by omega), sL_q (by omega), sL_2, u1 10 (by omega)]
      by_cases z : b = nb
      · rw [if_pos ⟨rfl, z⟩, if_pos z]
      · rw [if_neg (fun w => z w.2), if_neg z]
    have f11 : (sL (sL (sL (uow S 6) 10 nb fl) 11 nb va) 12 nb ce).2 11 b = if b = nb then va else S.2 11 b := by
      rw [sL_q (by omega), sL_2]
      by_cases z : b = nb
      · rw [if_pos ⟨rfl, z⟩, if_pos z]
      · rw [if_neg (fun w => z w.2), if_neg z, sL_q (by omega), u1 11 (by omega)]
    have f12 : (sL (sL (sL (uow S 6) 10 nb fl) 11 nb va) 12 nb ce).2 12 b = if b = nb then ce else S.2 12 b := by
      rw [sL_2]
      by_cases z : b = nb
      · rw [if_pos ⟨rfl, z⟩, if_pos z]
      · rw [if_neg (fun w => z w.2), if_neg z, sL_q (by omega), sL_q (by omega), u1 12 (by omega)]
    have g1' : (sL (sL (sL (mt0 M) 1 nb fl) 2 nb va) 3 nb ce).2 1 b = if b = nb then fl else M.2 1 b := by
      rw [sL_q (by omega), sL_q (by omega), sL_2]
      by_cases z : b = nb
      · rw [if_pos ⟨rfl, z⟩, if_pos z]
      · rw [if_neg (fun w => z w.2), if_neg z]; rfl
    have g2' : (sL (sL (sL (mt0 M) 1 nb fl) 2 nb va) 3 nb ce).2 2 b = if b = nb then va else M.2 2 b := by
      rw [sL_q (by omega), sL_2]
      by_cases z : b = nb
      · rw [if_pos ⟨rfl, z⟩, if_pos z]
      · rw [if_neg (fun w => z w.2), if_neg z, sL_q (by omega)]; rfl
    have g3' : (sL (sL (sL (mt0 M) 1 nb fl) 2 nb va) 3 nb ce).2 3 b = if b = nb then ce else M.2 3 b := by
      rw [sL_2]
      by_cases z : b = nb
      · rw [if_pos ⟨rfl, z⟩, if_pos z]
      · rw [if_neg (fun w => z w.2), if_neg z, sL_q (by omega), sL_q (by omega)]; rfl
    rw [f10, f11, f12, g1', g2', g3', hB.1, hB.2.1, hB.2.2]
    exact ⟨rfl, rfl, rfl⟩
  · rw [sI_2, ys]
    by_cases z : b = nb
    · subst z
      rcases (show s = 0 ∨ s = 1 by omega) with rfl | rfl
      · rw [if_neg (by omega), if_pos (by omega), xd p hp, g2 p hp, show 12 * b + 6 * 0 + p - (12 * b + 6 * 0) = p by omega]
      · rw [if_pos (by omega), xu p hp, k2 p hp, show 12 * b + 6 * 1 + p - (12 * b + 6 * 1) = p by omega]
    · rw [if_neg (by omega), if_neg (by omega), x2 _ (by omega) (by omega) (by omega) (by omega) (by omega) (by omega)]
      exact Sh b s p hb hs hp
  · obtain ⟨m, m8, m1, m2, m3, m4⟩ := Q p hp
    refine ⟨m, m8, by rw [x1 34 (by omega)]; exact m1, by rw [y1 9 (by omega) (by omega)]; exact m2, by rw [x1 8 (by omega)]; exact m3, fun j hj => ?_⟩
    obtain ⟨b, hb, q1, q2, q3⟩ := m4 j hj
    rw [x1 (36 + p) (by omega), y1 10 (by omega) (by omega), sI_2, y2 11 (by omega) (by omega) (by omega) (by omega) (by omega), x2 (43 + p) (by omega) (by omega) (by omega) (by omega) (by omega) (by omega)]
    exact ⟨b, by omega, q1, q2, q3⟩
  · have hR := jR_c (S' := A4) (M' := sI B4 0 1 (nI (nb + 1))) R (fun q _ _ => x1 q (by omega)) (x2 32 (by omega) (by omega) (by omega) (by omega) (by omega) (by omega)) e33 (fun q _ _ => y1 q (by omega) (by omega)) (by rw [sI_2]; exact y2 16 (by omega) (by omega) (by omega) (by omega) (by omega)) r h1 h2
    obtain ⟨⟨b, s, f, t, hb, q⟩, q'⟩ := hR
    exact ⟨⟨b, s, f, t, by omega, q⟩, q'⟩
  · unfold shI
    by_cases z : b = nb
    · subst z
      rcases (show s = 0 ∨ s = 1 by omega) with rfl | rfl
      · rw [xd p hp]; exact g3 p hp
      · rw [xu p hp]; exact k3 p hp
    · rw [x2 _ (by omega) (by omega) (by omega) (by omega) (by omega) (by omega)]
      exact c1 b s p (by omega) hs hp
  · refine ⟨Int.le_refl 0, ?_⟩
    unfold totI
    rw [ehd]
    by_cases z : b = nb
    · subst z
      have d0 : sN (shI A4 b 0) 6 = (va - fl).toInt := by
        rw [← g4]
        exact sN_congr 6 (fun p hp => by unfold shI; rw [xd p hp])
      have d1 : sN (shI A4 b 1) 6 = (ce - va).toInt := by
        rw [← k4]
        exact sN_congr 6 (fun p hp => by unfold shI; rw [xu p hp])
      have d2 : sN (hdI S b) nr = sN (fun _ => 0) nr := sN_congr nr (fun r hr => by unfold hdI; rw [if_neg (hnew (r + 1) (by omega) (by omega))])
      have d3 : ∀ m, sN (fun _ => (0 : Int)) m = 0 := fun m => by
        induction m with
        | zero => rfl
        | succ m ih => rw [sN, ih]; rfl
      rw [d0, d1, d2, d3]
      (try dsimp only)
      omega
    · have h3 := c3 b (by omega)
      unfold totI at h3
      have d0 : ∀ s, s < 2 → shI A4 b s = shI S b s := fun s hs => by
        funext p
        unfold shI
        rw [x2 _ (by omega) (by omega) (by omega) (by omega) (by omega) (by omega)]
      rw [d0 0 (by omega), d0 1 (by omega)]
      dsimp only at h3
      exact h3.2
  · rcases (show j = 0 ∨ j = 1 by omega) with rfl | rfl
    · rw [mbr, if_pos rfl]
      exact g1
    · rw [hm1, mbr, if_neg (by omega)]
      exact k1
