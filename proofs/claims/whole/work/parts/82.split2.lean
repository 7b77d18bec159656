/-! the first round's numbers; both splits whole -/
theorem sN_mono {f : Nat → Int} {n : Nat} : ∀ m, n ≤ m → (∀ i, i < m → 0 ≤ f i) → sN f n ≤ sN f m
  | 0, h, _ => by
    obtain rfl : n = 0 := by omega
    exact Int.le_refl _
  | m + 1, h, hf => by
    by_cases e : n = m + 1
    · subst e; exact Int.le_refl _
    · have h1 := sN_mono (f := f) (n := n) m (by omega) (fun i hi => hf i (by omega))
      have h2 := hf m (by omega)
      rw [sN]; omega
theorem sumW_int (S : sSt) (hb : ∀ p, p < 6 → 0 ≤ (S.2 49 p).toInt ∧ (S.2 49 p).toInt ≤ 1000000) : ∀ n, n ≤ 6 → (sumW S n).toInt = sN (fun p => (S.2 49 p).toInt) n ∧ 0 ≤ (sumW S n).toInt ∧ (sumW S n).toInt ≤ n * 1000000
  | 0, _ => ⟨rfl, by rw [sumW, i_0]; omega, by rw [sumW, i_0]; omega⟩
  | n + 1, hn => by
    obtain ⟨h1, h2, h3⟩ := sumW_int S hb n (by omega)
    have h4 := hb n (by omega)
    have e : (sumW S (n + 1)).toInt = (sumW S n).toInt + (S.2 49 n).toInt := by
      rw [sumW]
      exact i_add (by omega) (by omega)
    refine ⟨by rw [e, h1, sN], by omega, by omega⟩
theorem mall_eq (S M : sSt) (b0 : Bool) (hw : ∀ p, p < 6 → S.2 49 p = mown M b0 p) : ∀ n, n ≤ 6 → mall M b0 n = sumW S n
  | 0, _ => rfl
  | n + 1, hn => by rw [mall, sumW, mall_eq S M b0 hw n (by omega), hw n (by omega)]
/-- floors and rests of R * W p by A -/
theorem fl_sum {R A : Int} {W : Nat → Int} (hA : 0 < A) : ∀ n, R * sN W n = A * sN (fun p => R * W p / A) n + sN (fun p => R * W p % A) n
  | 0 => by simp [sN]
  | n + 1 => by
    rw [sN, sN, sN, Int.mul_add, Int.mul_add, fl_sum hA n]
    have := Int.mul_ediv_add_emod (R * W n) A
    omega
theorem fl_left {R A : Int} {W : Nat → Int} (hA : 0 < A) (h6 : sN W 6 = A) : 0 ≤ R - sN (fun p => R * W p / A) 6 ∧ R - sN (fun p => R * W p / A) 6 ≤ 5 := by
  have h := fl_sum (R := R) (W := W) hA 6
  rw [h6] at h
  have h0 : 0 ≤ sN (fun p => R * W p % A) 6 := sN_nn 6 (fun i _ => Int.emod_nonneg _ (by omega))
  have h1 : sN (fun p => R * W p % A) 6 ≤ (6 : Nat) * (A - 1) := sN_lt 6 (fun i _ => by
    have := Int.emod_lt_of_pos (R * W i) hA
    omega)
  generalize sN (fun p => R * W p / A) 6 = Q at h ⊢
  generalize sN (fun p => R * W p % A) 6 = T at h h0 h1
  have e : A * (R - Q) = T := by rw [Int.mul_sub, Int.mul_comm A R]; omega
  refine ⟨?_, ?_⟩
  · rcases Int.lt_or_le (R - Q) 0 with q | q
    · have := Int.mul_lt_mul_of_pos_left q hA
      omega
    · exact q
  · rcases Int.lt_or_le 5 (R - Q) with q | q
    · have := Int.mul_le_mul_of_nonneg_left (show (6 : Int) ≤ R - Q by omega) (Int.le_of_lt hA)
      omega
    · exact q
/-- what both splits need of a room and the weights -/
def spW (w : Nat → Int64) (r : Int64) : Prop := (∀ p, p < 6 → 0 ≤ (w p).toInt ∧ (w p).toInt ≤ 1000000) ∧ 0 ≤ r.toInt ∧ r.toInt ≤ 3000000000000000000 ∧ ∀ p, p < 6 → r.toInt * (w p).toInt ≤ 4000000000000000000
theorem sp_num {S : sSt} {r : Int64} (h : spW (S.2 49) r) (hpos : 0 < sumW S 6) : (∀ p, p < 6 → (r * S.2 49 p / sumW S 6).toInt = r.toInt * (S.2 49 p).toInt / (sumW S 6).toInt ∧ (r * S.2 49 p - r * S.2 49 p / sumW S 6 * sumW S 6).toInt = r.toInt * (S.2 49 p).toInt % (sumW S 6).toInt) ∧
    (∀ n, n ≤ 6 → (lf1 r (sumW S 6) (S.2 49) n).toInt = r.toInt - sN (fun p => r.toInt * (S.2 49 p).toInt / (sumW S 6).toInt) n) ∧ 0 ≤ (lf1 r (sumW S 6) (S.2 49) 6).toInt ∧ (lf1 r (sumW S 6) (S.2 49) 6).toInt ≤ 5 := by
  obtain ⟨hb, hr0, hr1, hm⟩ := h
  obtain ⟨e6, -, h6b⟩ := sumW_int S hb 6 (by omega)
  rw [i_lt, i_0] at hpos
  have hprod : ∀ p, p < 6 → 0 ≤ r.toInt * (S.2 49 p).toInt := fun p hp => Int.mul_nonneg hr0 (hb p hp).1
  have em : ∀ p, p < 6 → (r * S.2 49 p).toInt = r.toInt * (S.2 49 p).toInt := fun p hp => by
    have h1 := hprod p hp
    have h2 := hm p hp
    exact i_mul (by omega) (by omega)
  have ed : ∀ p, p < 6 → (r * S.2 49 p / sumW S 6).toInt = r.toInt * (S.2 49 p).toInt / (sumW S 6).toInt := fun p hp => by
    rw [i_div (by rw [em p hp]; exact hprod p hp) hpos, em p hp]
  obtain ⟨f0, f5⟩ := fl_left (R := r.toInt) (W := fun p => (S.2 49 p).toInt) hpos e6.symm
  have hq : ∀ p, p < 6 → 0 ≤ r.toInt * (S.2 49 p).toInt / (sumW S 6).toInt := fun p hp => Int.ediv_nonneg (hprod p hp) (by omega)
  have hl : ∀ n, n ≤ 6 → (lf1 r (sumW S 6) (S.2 49) n).toInt = r.toInt - sN (fun p => r.toInt * (S.2 49 p).toInt / (sumW S 6).toInt) n := by
    intro n
    induction n with
    | zero => intro _; rw [lf1, sN]; omega
    | succ n ih =>
      intro hn
      have i1 := ih (by omega)
      have m1 := sN_mono (f := fun p => r.toInt * (S.2 49 p).toInt / (sumW S 6).toInt) (n := n + 1) 6 hn hq
      have m0 := sN_nn (f := fun p => r.toInt * (S.2 49 p).toInt / (sumW S 6).toInt) n (fun i hi => hq i (by omega))
      have q1 := hq n (by omega)
      rw [sN] at m1
      rw [lf1, i_sub (by rw [i1, ed n (by omega)]; omega) (by rw [i1, ed n (by omega)]; omega), i1, ed n (by omega), sN]
      omega
  refine ⟨fun p hp => ⟨ed p hp, ?_⟩, hl, by rw [hl 6 (by omega)]; exact f0, by rw [hl 6 (by omega)]; exact f5⟩
  have hdm := Int.mul_ediv_add_emod (r.toInt * (S.2 49 p).toInt) (sumW S 6).toInt
  have hmo := Int.emod_nonneg (r.toInt * (S.2 49 p).toInt) (show (sumW S 6).toInt ≠ 0 by omega)
  have hml := Int.emod_lt_of_pos (r.toInt * (S.2 49 p).toInt) hpos
  have h2 := hm p hp
  have h1 := hprod p hp
  have hqa : (r * S.2 49 p / sumW S 6 * sumW S 6).toInt = r.toInt * (S.2 49 p).toInt / (sumW S 6).toInt * (sumW S 6).toInt := by
    rw [i_mul (by rw [ed p hp, Int.mul_comm]; omega) (by rw [ed p hp, Int.mul_comm]; omega), ed p hp]
  rw [i_sub (by rw [em p hp, hqa, Int.mul_comm (r.toInt * (S.2 49 p).toInt / (sumW S 6).toInt)]; omega) (by rw [em p hp, hqa, Int.mul_comm (r.toInt * (S.2 49 p).toInt / (sumW S 6).toInt)]; omega), em p hp, hqa, Int.mul_comm (r.toInt * (S.2 49 p).toInt / (sumW S 6).toInt)]
  omega
theorem spl2_o (q : Nat) (h0 : q ≠ 50) (h1 : q ≠ 51) : ∀ n (X : sSt × Int64), (spl2 n X).1.2 q = X.1.2 q
  | 0, _ => rfl
  | n + 1, X => by
    rw [spl2]
    split
    · rfl
    · rw [spl2_o q h0 h1 n]
      show (sL (sL X.1 50 _ _) 51 _ _).2 q = _
      rw [sL_q h1, sL_q h0]
theorem flL_o (S : sSt) (v : Int64) (q : Nat) (h0 : q ≠ 50) : ∀ n, (flL S v n).2 q = S.2 q
  | 0 => rfl
  | n + 1 => by rw [flL, sL_q h0, flL_o S v q h0 n]
theorem splF_o (S : sSt) (r : Int64) (q : Nat) (h0 : q ≠ 50) (h1 : q ≠ 51) : (splF S r).2 q = S.2 q := by
  unfold splF
  split
  · rw [spl2_o q h0 h1, (spl1_p S r _ 6).1 q h0 h1]
  · exact flL_o S 0 q h0 6
theorem mspl2_o (q : Nat) (h0 : q ≠ 20) : ∀ n (X : sSt × Int64), (mspl2 n X).1.2 q = X.1.2 q
  | 0, _ => rfl
  | n + 1, X => by
    rw [mspl2]
    split
    · rfl
    · rw [mspl2_o q h0 n]
      show (sL (sI X.1 22 _ _) 20 _ _).2 q = _
      rw [sL_q h0, sI_2]
theorem msplF_o (M : sSt) (r : Int64) (b0 : Bool) (q : Nat) (h0 : q ≠ 20) (h1 : q ≠ 21) : (msplF M r b0).2 q = M.2 q := by
  rw [msplF, mspl2_o q h0, (mspl1_p M r _ b0 6).1 q h0 h1]
theorem ucN_6 {M : sSt} : ∀ n, (∀ p, p < n → M.1 22 p = nI 0) → ucN M n = n
  | 0, _ => rfl
  | n + 1, h => by rw [ucN, ucN_6 n (fun p hp => h p (by omega)), if_pos (show M.1 22 n = 0 from h n (by omega))]
/-- THE SPLIT: class and reference give the same parts, they sum up to the room, and the reference's comes to its end -/
theorem split_eq {S M : sSt} {r : Int64} {b0 : Bool} (hw : ∀ p, p < 6 → S.2 49 p = mown M b0 p) (h : spW (S.2 49) r) (hpos : 0 < sumW S 6) :
    mspG M r b0 ∧ (∀ p, p < 6 → (splF S r).2 50 p = (msplF M r b0).2 20 p) ∧ (∀ p, p < 6 → 0 ≤ ((splF S r).2 50 p).toInt) ∧ sN (fun p => ((splF S r).2 50 p).toInt) 6 = r.toInt := by
  obtain ⟨n1, n2, n3, n4⟩ := sp_num h hpos
  have ha : mall M b0 6 = sumW S 6 := mall_eq S M b0 hw 6 (by omega)
  obtain ⟨-, c2, c3⟩ := spl1_p S r (sumW S 6) 6
  obtain ⟨-, -, d2, d3⟩ := mspl1_p M r (sumW S 6) b0 6
  have hlf : ∀ n, n ≤ 6 → lf1 r (sumW S 6) (S.2 49) n = lf1 r (sumW S 6) (mown M b0) n := by
    intro n
    induction n with
    | zero => intro _; rfl
    | succ n ih => intro hn; rw [lf1, lf1, ih (by omega), hw n (by omega)]
  have hpos' := hpos
  rw [i_lt, i_0] at hpos'
  have hk : KR (spl1 S r (sumW S 6) 6) (mspl1 M r (sumW S 6) b0 6) := by
    refine ⟨by rw [c3, d3, hlf 6 (by omega)], fun p hp => ?_, fun p hp => Or.inl ⟨?_, ?_, ?_⟩⟩
    · rw [(c2 p hp).1, (d2 p hp).1, hw p hp]
    · rw [(d2 p hp).2.2]; rfl
    · rw [(c2 p hp).2, (d2 p hp).2.1, hw p hp]
    · rw [(c2 p hp).2, (n1 p hp).2]
      exact Int.emod_nonneg _ (by omega)
  have hu : ucN (mspl1 M r (sumW S 6) b0 6).1 6 = 6 := ucN_6 6 (fun p hp => (d2 p hp).2.2)
  have hle : ∀ p, p < 6 → 0 ≤ ((spl1 S r (sumW S 6) 6).1.2 50 p).toInt ∧ ((spl1 S r (sumW S 6) 6).1.2 50 p).toInt ≤ 4000000000000000000 - (6 : Nat) := fun p hp => by
    rw [(c2 p hp).1, (n1 p hp).1]
    have h0 : 0 ≤ r.toInt * (S.2 49 p).toInt := Int.mul_nonneg h.2.1 (h.1 p hp).1
    have h1 : r.toInt * (S.2 49 p).toInt / (sumW S 6).toInt ≤ r.toInt := by
      have hws : (S.2 49 p).toInt ≤ (sumW S 6).toInt := by
        rw [(sumW_int S h.1 6 (by omega)).1]
        exact sN_one (f := fun p => (S.2 49 p).toInt) 6 hp (fun i hi => (h.1 i hi).1)
      have h3 := Int.mul_le_mul_of_nonneg_left hws h.2.1
      have h4 := Int.ediv_le_ediv hpos' h3
      rw [Int.mul_ediv_cancel _ (by omega)] at h4
      exact h4
    have h5 : 0 ≤ r.toInt * (S.2 49 p).toInt / (sumW S 6).toInt := Int.ediv_nonneg h0 (by omega)
    have h6 := h.2.2.1
    omega
  obtain ⟨r1, r2, r3⟩ := KR_run 6 _ _ hk (by rw [c3]; omega) (by rw [c3, hu]; omega) (by omega)
  obtain ⟨s1, s2⟩ := r3 (by rw [c3]; exact n3) hle
  have ef : splF S r = (spl2 6 (spl1 S r (sumW S 6) 6)).1 := by rw [splF, if_pos hpos]
  have em : msplF M r b0 = (mspl2 6 (mspl1 M r (sumW S 6) b0 6)).1 := by rw [msplF, ha]
  refine ⟨⟨?_, ?_⟩, fun p hp => ?_, fun p hp => ?_, ?_⟩
  · rw [ha]
    intro z
    rw [z, i_0] at hpos'
    omega
  · rw [ha]; exact r2
  · rw [ef, em]; exact r1.2.1 p hp
  · rw [ef]
    have := s2 p hp
    have := (hle p hp).1
    omega
  · rw [ef, s1, c3, n2 6 (by omega)]
    have : sN (fun p => ((spl1 S r (sumW S 6) 6).1.2 50 p).toInt) 6 = sN (fun p => r.toInt * (S.2 49 p).toInt / (sumW S 6).toInt) 6 := sN_congr 6 (fun p hp => by rw [(c2 p hp).1, (n1 p hp).1])
    rw [this]
    omega
