/-! what the contracts ask, out of JJ; the reading calls -/
theorem JJ_RI {S M : sSt} {nb nr : Nat} {ex : Nat → Int} (h : JJ S M nb nr ex) : RI nb nr S ∧ MI nb nr M ∧ RW nb nr S ∧ MRW nb nr M := by
  obtain ⟨K, n, P, T, B, Sh, Q, R, Z, C⟩ := h
  have nb6 := K.1
  refine ⟨⟨fun q hq => ?_, K.2.2.1, K.2.2.2.2.1⟩, ⟨fun q hq => ?_, K.2.2.2.1, K.2.2.2.2.2⟩, fun r h1 h2 => ?_, fun r h1 h2 => ?_⟩
  · obtain ⟨k, k8, k1, k2, k3, k4⟩ := Q q hq
    refine ⟨k, k8, k1, fun j hj => ?_⟩
    obtain ⟨b, hb, e1, -⟩ := k4 j hj
    exact ⟨b, by omega, e1⟩
  · obtain ⟨k, k8, k1, k2, k3, k4⟩ := Q q hq
    refine ⟨k, k8, k2, fun j hj => ?_⟩
    obtain ⟨b, hb, e1, e2, -⟩ := k4 j hj
    exact ⟨b, by omega, e2⟩
  · obtain ⟨⟨b, s, f, t, hb, hs, hf, ht, r26, r27, r28, r29, m12, m13, m14, m15⟩, -⟩ := R r h1 h2
    exact ⟨b, s, f, t, hb, hs, hf, ht, r26, r27, r28, r29⟩
  · obtain ⟨⟨b, s, f, t, hb, hs, hf, ht, r26, r27, r28, r29, m12, m13, m14, m15⟩, -⟩ := R r h1 h2
    exact ⟨b, s, f, t, hb, hs, hf, ht, m12, m13, m14, m15⟩
theorem sim_share {S M : sSt} {nb nr b s p : Nat} {ex : Nat → Int} (h : JJ S M nb nr ex) (hb : b < nb) (hs : s < 2) (hp : p < 6) : S.2 (14 + (b * 2 + s)) p = M.2 4 (12 * b + 6 * s + p) := by
  have nb6 := h.1.1
  exact h.2.2.2.2.2.1 b s p (by omega) hs hp
theorem sim_shs {S M : sSt} {nb nr b s : Nat} {ex : Nat → Int} (h : JJ S M nb nr ex) (hb : b < nb) (hs : s < 2) (b0 : Bool) : ∀ n, n ≤ 6 → shT S (b * 2 + s) b0 n = mshs M b s b0 n
  | 0, _ => rfl
  | n + 1, hn => by
    rw [shT, mshs, sim_shs h hb hs b0 n (by omega), wl_w h.2.2.1 (nI n), sim_share h hb hs (show n < 6 by omega)]
    split
    · rfl
    · rw [Int64.add_zero]
theorem sim_inr {S M : sSt} {nb nr b s : Nat} {ex : Nat → Int} (h : JJ S M nb nr ex) (b0 : Bool) : ∀ n, n ≤ nr → hbr S b s b0 n = minr M b s b0 n
  | 0, _ => rfl
  | n + 1, hn => by
    have ih := sim_inr (b := b) (s := s) h b0 n (by omega)
    obtain ⟨K, N, P, T, B, Sh, Q, R, Z, C⟩ := h
    obtain ⟨⟨b', s', f, t, hb, hs, hf, ht, r26, r27, r28, r29, m12, m13, m14, m15⟩, q1, q2, q3, q4, q5⟩ := R (n + 1) (by omega) hn
    have est : stk S (n + 1) = mstk M (n + 1) := by rw [stk, mstk, q1, r29, m15, wl_w P]
    have eof : isOf S (n + 1) b s = (decide (M.1 12 (n + 1) = nI b) && decide (M.1 13 (n + 1) = nI s)) := by rw [isOf, r26, r27, m12, m13]
    rw [hbr, minr, ← est, ih, ← q1, eof]
    have assoc : (decide (M.1 12 (n + 1) = nI b) && (decide (M.1 13 (n + 1) = nI s) && (!decide (S.1 30 (n + 1) = nI 1) && decide (M.1 19 (n + 1) = 0)))) = ((decide (M.1 12 (n + 1) = nI b) && decide (M.1 13 (n + 1) = nI s)) && (!decide (S.1 30 (n + 1) = nI 1) && decide (M.1 19 (n + 1) = 0))) := by rw [Bool.and_assoc]
    rw [assoc]
    generalize (decide (M.1 12 (n + 1) = nI b) && decide (M.1 13 (n + 1) = nI s)) = x
    cases x with
    | false => rfl
    | true =>
      rw [Bool.true_and, if_neg (show ¬ true = false by decide)]
      rcases q5 with ⟨w1, w2, w3⟩ | ⟨w1, w2, w3⟩
      · by_cases c : S.1 30 (n + 1) = nI 1
        · rw [decide_eq_true c, w2 c]
          simp
        · rw [decide_eq_false c, decide_eq_true w1, w3 c, q3]
          simp only [Bool.not_false, Bool.true_and, if_true]
          split
          · rfl
          · rw [Int64.add_zero]
      · rw [decide_eq_false w1, w3]
        simp
theorem sim_lent {S M : sSt} {nb nr r : Nat} {ex : Nat → Int} (h : JJ S M nb nr ex) (h1 : 1 ≤ r) (h2 : r ≤ nr) : S.2 32 r = M.2 16 r := (h.2.2.2.2.2.2.2.1 r h1 h2).2.2.2.1
theorem sim_waits {S M : sSt} {nb nr p : Nat} {ex : Nat → Int} (h : JJ S M nb nr ex) (hp : p < 6) : ∃ k, k ≤ 8 ∧ S.1 34 p = nI k ∧ M.1 9 p = nI k ∧ ∀ j, j < k → S.2 (43 + p) j = M.2 11 (8 * p + j) := by
  obtain ⟨k, k8, k1, k2, k3, k4⟩ := h.2.2.2.2.2.2.1 p hp
  refine ⟨k, k8, k1, k2, fun j hj => ?_⟩
  obtain ⟨b, hb, e1, e2, e3, -⟩ := k4 j hj
  exact e3
theorem sim_bnd {S M : sSt} {nb nr b : Nat} {ex : Nat → Int} (h : JJ S M nb nr ex) (hb : b < nb) : S.2 10 b = M.2 1 b ∧ S.2 11 b = M.2 2 b ∧ S.2 12 b = M.2 3 b := by
  have nb6 := h.1.1
  exact h.2.2.2.2.1 b (by omega)
/-- the beginning -/
def S0 : sSt := (fun _ _ => 0, fun q j => if q = 6 ∧ j < 6 then 1 else 0)
def M0 : sSt := (fun _ _ => 0, fun q j => if q = 5 ∧ j < 6 then 1 else 0)
theorem JJ_0 (S M : sSt) (hS1 : ∀ q j, S.1 q j = 0) (hS2 : ∀ q j, q ≠ 6 → S.2 q j = 0) (hS6 : ∀ j, j < 6 → S.2 6 j = 1) (hM1 : ∀ q j, M.1 q j = 0) (hM2 : ∀ q j, q ≠ 5 → M.2 q j = 0) (hM5 : ∀ j, j < 6 → M.2 5 j = 1) : JJ S M 0 0 (fun _ => 0) ∧ sv S := by
  have z0 : (0 : Int32) = nI 0 := rfl
  refine ⟨⟨⟨by omega, by omega, hS1 2 0, hM1 0 1, hS1 3 0, hM1 0 13⟩, ⟨by rw [hS1, hM1], by rw [hS1, hM1]⟩, fun p hp => ?_, fun e he => ⟨0, by omega, hS1 9 e, fun p hp => ?_⟩, fun b hb => ?_, fun b s p hb hs hp => ?_, fun p hp => ⟨0, by omega, hS1 34 p, hM1 9 p, fun _ => rfl, fun j hj => absurd hj (Nat.not_lt_zero j)⟩, fun r h1 h2 => absurd h2 (by omega), fun r h1 h2 => ⟨hS1 30 r, hS1 31 r⟩, fun b s p hb => absurd hb (Nat.not_lt_zero b), fun r h1 h2 => absurd h2 (by omega), fun b hb => absurd hb (Nat.not_lt_zero b)⟩, fun p hp => Or.inl (hS1 8 p)⟩
  · rw [hS6 p hp, hM5 p hp, hS1, hM1, hS1, hM1, i_1]
    exact ⟨rfl, rfl, rfl, by omega, by omega⟩
  · rw [hM1, Nat.zero_testBit]
    rfl
  · rw [hS2 10 b (by omega), hS2 11 b (by omega), hS2 12 b (by omega), hM2 1 b (by omega), hM2 2 b (by omega), hM2 3 b (by omega)]
    exact ⟨rfl, rfl, rfl⟩
  · rw [hS2 _ p (by omega), hM2 4 _ (by omega)]
