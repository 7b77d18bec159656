/-! the two splits do the same -/
theorem sL_q {S : sSt} {k j q : Nat} {x : Int64} (h : q ≠ k) : (sL S k j x).2 q = S.2 q := by
  funext i
  rw [sL_2, if_neg (fun e => h e.1)]
theorem sI_q {S : sSt} {k j q : Nat} {x : Int32} (h : q ≠ k) : (sI S k j x).1 q = S.1 q := by
  funext i
  rw [sI_1, if_neg (fun e => h e.1)]
/-- parts and rests of the first round, what is left -/
def lf1 (r a : Int64) (w : Nat → Int64) : Nat → Int64
  | 0 => r
  | n + 1 => lf1 r a w n - r * w n / a
theorem spl1_p (S : sSt) (r a : Int64) : ∀ n, (∀ q, q ≠ 50 → q ≠ 51 → (spl1 S r a n).1.2 q = S.2 q) ∧ (∀ p, p < n → (spl1 S r a n).1.2 50 p = r * S.2 49 p / a ∧ (spl1 S r a n).1.2 51 p = r * S.2 49 p - r * S.2 49 p / a * a) ∧ (spl1 S r a n).2 = lf1 r a (S.2 49) n
  | 0 => ⟨fun _ _ _ => rfl, fun p hp => absurd hp (Nat.not_lt_zero p), rfl⟩
  | n + 1 => by
    obtain ⟨h1, h2, h3⟩ := spl1_p S r a n
    have h49 : (spl1 S r a n).1.2 49 = S.2 49 := h1 49 (by omega) (by omega)
    refine ⟨fun q e0 e1 => ?_, fun p hp => ?_, ?_⟩
    · rw [spl1]
      show (sL (sL _ 50 n _) 51 n _).2 q = _
      rw [sL_q e1, sL_q e0, h1 q e0 e1]
    · rw [spl1]
      show (sL (sL _ 50 n _) 51 n _).2 50 p = _ ∧ (sL (sL _ 50 n _) 51 n _).2 51 p = _
      rw [h49, sL_q (show (50 : Nat) ≠ 51 by omega), sL_2, sL_2]
      by_cases e : p = n
      · subst e
        rw [if_pos ⟨rfl, rfl⟩, if_pos ⟨rfl, rfl⟩]
        exact ⟨rfl, rfl⟩
      · rw [if_neg (fun z => e z.2), if_neg (fun z => e z.2), sL_q (show (51 : Nat) ≠ 50 by omega)]
        exact h2 p (by omega)
    · rw [spl1, lf1]
      show (spl1 S r a n).2 - (sL (sL _ 50 n _) 51 n _).2 50 n = _
      rw [sL_q (show (50 : Nat) ≠ 51 by omega), sL_2, if_pos ⟨rfl, rfl⟩, h49, h3]
theorem mown_eq {M T : sSt} (h6 : T.1 6 = M.1 6) (h5 : T.2 5 = M.2 5) (b0 : Bool) (p : Nat) : mown T b0 p = mown M b0 p := by
  have e : mwl T (nI p) = mwl M (nI p) := by rw [mwl, mwl, h6]
  rw [mown, mown, e, h5]
theorem mspl1_p (M : sSt) (r a : Int64) (b0 : Bool) : ∀ n, (∀ q, q ≠ 20 → q ≠ 21 → (mspl1 M r a b0 n).1.2 q = M.2 q) ∧ (∀ q, q ≠ 22 → (mspl1 M r a b0 n).1.1 q = M.1 q) ∧ (∀ p, p < n → (mspl1 M r a b0 n).1.2 20 p = r * mown M b0 p / a ∧ (mspl1 M r a b0 n).1.2 21 p = r * mown M b0 p - r * mown M b0 p / a * a ∧ (mspl1 M r a b0 n).1.1 22 p = nI 0) ∧ (mspl1 M r a b0 n).2 = lf1 r a (mown M b0) n
  | 0 => ⟨fun _ _ _ => rfl, fun _ _ => rfl, fun p hp => absurd hp (Nat.not_lt_zero p), rfl⟩
  | n + 1 => by
    obtain ⟨h1, h0, h2, h3⟩ := mspl1_p M r a b0 n
    have ho : mown (mspl1 M r a b0 n).1 b0 n = mown M b0 n := mown_eq (h0 6 (by omega)) (h1 5 (by omega) (by omega)) b0 n
    refine ⟨fun q e0 e1 => ?_, fun q e0 => mspl1_q M r a b0 q e0 (n + 1), fun p hp => ?_, ?_⟩
    · rw [mspl1]
      show (sI (sL (sL _ 20 n _) 21 n _) 22 n _).2 q = _
      rw [sI_2, sL_q e1, sL_q e0, h1 q e0 e1]
    · rw [mspl1, ho]
      show (sI (sL (sL _ 20 n _) 21 n _) 22 n _).2 20 p = _ ∧ (sI (sL (sL _ 20 n _) 21 n _) 22 n _).2 21 p = _ ∧ (sI (sL (sL _ 20 n _) 21 n _) 22 n _).1 22 p = _
      rw [sI_2, sL_q (show (20 : Nat) ≠ 21 by omega), sL_2, sL_2, sI_1]
      by_cases e : p = n
      · subst e
        rw [if_pos ⟨rfl, rfl⟩, if_pos ⟨rfl, rfl⟩, if_pos ⟨rfl, rfl⟩]
        exact ⟨rfl, rfl, rfl⟩
      · rw [if_neg (fun z => e z.2), if_neg (fun z => e z.2), if_neg (fun z => e z.2), sL_q (show (21 : Nat) ≠ 20 by omega)]
        exact h2 p (by omega)
    · rw [mspl1, lf1, ho]
      show (mspl1 M r a b0 n).2 - (sI (sL (sL _ 20 n _) 21 n _) 22 n _).2 20 n = _
      rw [sI_2, sL_q (show (20 : Nat) ≠ 21 by omega), sL_2, if_pos ⟨rfl, rfl⟩, h3]
/-- class and reference within the second round -/
def KR (X Y : sSt × Int64) : Prop := X.2 = Y.2 ∧ (∀ p, p < 6 → X.1.2 50 p = Y.1.2 20 p) ∧ ∀ p, p < 6 → (Y.1.1 22 p = 0 ∧ X.1.2 51 p = Y.1.2 21 p ∧ 0 ≤ (X.1.2 51 p).toInt) ∨ (¬ Y.1.1 22 p = 0 ∧ X.1.2 51 p = -1)
theorem KR_best {X Y : sSt × Int64} (h : KR X Y) : ∀ n, n < 6 → ((∀ p, p ≤ n → ¬ Y.1.1 22 p = 0) ∧ mbest Y.1 (n + 1) = (-1)) ∨ (mbest Y.1 (n + 1) = nI (gRest X.1 n) ∧ Y.1.1 22 (gRest X.1 n) = 0)
  | 0, _ => by
    rw [mbest, mbest, gRest]
    by_cases e : Y.1.1 22 0 = 0
    · right
      rw [if_neg (fun z => z e), if_pos rfl]
      exact ⟨rfl, e⟩
    · left
      rw [if_pos e]
      refine ⟨fun p hp => ?_, rfl⟩
      obtain rfl : p = 0 := by omega
      exact e
  | n + 1, hn => by
    have ih := KR_best h n (by omega)
    have hg := gRest_le X.1 n
    rw [mbest, gRest]
    rcases ih with ⟨ha, hb⟩ | ⟨hb, hc⟩
    · have hgs := ha (gRest X.1 n) hg
      have hgr : X.1.2 51 (gRest X.1 n) = -1 := by
        rcases h.2.2 (gRest X.1 n) (by omega) with q | q
        · exact absurd q.1 hgs
        · exact q.2
      rw [hb, hgr]
      rcases h.2.2 (n + 1) hn with ⟨q1, q2, q3⟩ | ⟨q1, q2⟩
      · right
        rw [if_neg (fun z => z q1), if_pos rfl, if_neg (fun z => by rw [i_le, i_m1] at z; omega)]
        exact ⟨rfl, q1⟩
      · left
        rw [if_pos q1]
        refine ⟨fun p hp => ?_, rfl⟩
        by_cases e : p = n + 1
        · subst e; exact q1
        · exact ha p (by omega)
    · right
      have hne : ¬ nI (gRest X.1 n) = (-1) := fun z => by
        have := congrArg Int32.toInt z
        rw [nI_toInt (by omega)] at this
        have e1 : (-1 : Int32).toInt = -1 := by decide
        rw [e1] at this
        omega
      have hgr : X.1.2 51 (gRest X.1 n) = Y.1.2 21 (gRest X.1 n) ∧ 0 ≤ (X.1.2 51 (gRest X.1 n)).toInt := by
        rcases h.2.2 (gRest X.1 n) (by omega) with q | q
        · exact q.2
        · exact absurd hc q.1
      rw [hb]
      rcases h.2.2 (n + 1) hn with ⟨q1, q2, q3⟩ | ⟨q1, q2⟩
      · rw [if_neg (fun z => z q1), if_neg hne, nI_clamp (by omega), ← q2, ← hgr.1]
        by_cases e : X.1.2 51 (n + 1) ≤ X.1.2 51 (gRest X.1 n)
        · rw [if_pos e, if_pos e]; exact ⟨rfl, hc⟩
        · rw [if_neg e, if_neg e]; exact ⟨rfl, q1⟩
      · rw [if_pos q1, if_pos (by rw [q2, i_le, i_m1]; omega)]
        exact ⟨rfl, hc⟩
/-- how many wait to be served -/
def ucN (M : sSt) : Nat → Nat
  | 0 => 0
  | n + 1 => ucN M n + (if M.1 22 n = 0 then 1 else 0)
theorem ucN_0 (M : sSt) : ∀ n, (∀ p, p < n → ¬ M.1 22 p = 0) → ucN M n = 0
  | 0, _ => rfl
  | n + 1, h => by rw [ucN, ucN_0 M n (fun p hp => h p (by omega)), if_neg (h n (by omega))]
theorem ucN_set {M T : sSt} {g : Nat} (hg : M.1 22 g = 0) (ht : ¬ T.1 22 g = 0) (ho : ∀ p, p ≠ g → T.1 22 p = M.1 22 p) : ∀ n, ucN T n + (if g < n then 1 else 0) = ucN M n
  | 0 => by simp [ucN]
  | n + 1 => by
    have ih := ucN_set hg ht ho n
    rw [ucN, ucN]
    by_cases e : g = n
    · subst e
      rw [if_neg ht, if_pos hg, if_pos (by omega)]
      rw [if_neg (by omega)] at ih
      omega
    · rw [ho n (fun z => e z.symm)]
      by_cases e2 : g < n
      · rw [if_pos e2] at ih
        rw [if_pos (show g < n + 1 by omega)]
        omega
      · rw [if_neg e2] at ih
        rw [if_neg (show ¬ g < n + 1 by omega)]
        omega
theorem KR_step {X Y : sSt × Int64} (h : KR X Y) (hu : 0 < ucN Y.1 6) : KR (sp2 X) (mp2 Y) ∧ ucN (mp2 Y).1 6 + 1 = ucN Y.1 6 ∧ ¬ mbest Y.1 6 = (-1) ∧ ∃ g, g < 6 ∧ (∀ p, (sp2 X).1.2 50 p = if p = g then X.1.2 50 p + 1 else X.1.2 50 p) := by
  have hg := gRest_le X.1 5
  rcases KR_best h 5 (by omega) with ⟨ha, -⟩ | ⟨hb, hc⟩
  · rw [ucN_0 Y.1 6 (fun p hp => ha p (by omega))] at hu
    exact absurd hu (by omega)
  · have hm : (mbest Y.1 6).toNatClampNeg = gRest X.1 5 := by rw [hb, nI_clamp (by omega)]
    have hne : ¬ mbest Y.1 6 = (-1) := fun z => by
      rw [hb] at z
      have := congrArg Int32.toInt z
      rw [nI_toInt (by omega)] at this
      have e1 : (-1 : Int32).toInt = -1 := by decide
      rw [e1] at this
      omega
    have p50 : ∀ p, (sp2 X).1.2 50 p = if p = gRest X.1 5 then X.1.2 50 p + 1 else X.1.2 50 p := fun p => by
      show (sL (sL X.1 50 _ _) 51 _ _).2 50 p = _
      rw [sL_q (show (50 : Nat) ≠ 51 by omega), sL_2]
      by_cases e : p = gRest X.1 5
      · rw [if_pos ⟨rfl, e⟩, if_pos e, e]
      · rw [if_neg (fun z => e z.2), if_neg e]
    have p51 : ∀ p, (sp2 X).1.2 51 p = if p = gRest X.1 5 then -1 else X.1.2 51 p := fun p => by
      show (sL (sL X.1 50 _ _) 51 _ _).2 51 p = _
      rw [sL_2, sL_q (show (51 : Nat) ≠ 50 by omega)]
      by_cases e : p = gRest X.1 5
      · rw [if_pos ⟨rfl, e⟩, if_pos e]
      · rw [if_neg (fun z => e z.2), if_neg e]
    have m20 : ∀ p, (mp2 Y).1.2 20 p = if p = gRest X.1 5 then Y.1.2 20 p + 1 else Y.1.2 20 p := fun p => by
      show (sL (sI Y.1 22 _ _) 20 _ _).2 20 p = _
      rw [sL_2, hm, sI_2]
      by_cases e : p = gRest X.1 5
      · rw [if_pos ⟨rfl, e⟩, if_pos e, e]
      · rw [if_neg (fun z => e z.2), if_neg e]
    have m21 : ∀ p, (mp2 Y).1.2 21 p = Y.1.2 21 p := fun p => by
      show (sL (sI Y.1 22 _ _) 20 _ _).2 21 p = _
      rw [sL_q (show (21 : Nat) ≠ 20 by omega), sI_2]
    have m22 : ∀ p, (mp2 Y).1.1 22 p = if p = gRest X.1 5 then nI 1 else Y.1.1 22 p := fun p => by
      show (sL (sI Y.1 22 _ _) 20 _ _).1 22 p = _
      rw [sL_1, sI_1, hm]
      by_cases e : p = gRest X.1 5
      · rw [if_pos ⟨rfl, e⟩, if_pos e]
      · rw [if_neg (fun z => e z.2), if_neg e]
    have n10 : ¬ nI 1 = 0 := by decide
    refine ⟨⟨?_, fun p hp => ?_, fun p hp => ?_⟩, ?_, hne, gRest X.1 5, by omega, p50⟩
    · show X.2 - 1 = Y.2 - 1
      rw [h.1]
    · rw [p50, m20, h.2.1 p hp]
    · rw [p51, m21, m22]
      by_cases e : p = gRest X.1 5
      · right
        rw [if_pos e, if_pos e]
        exact ⟨n10, rfl⟩
      · rw [if_neg e, if_neg e]
        exact h.2.2 p hp
    · have := ucN_set (M := Y.1) (T := (mp2 Y).1) (g := gRest X.1 5) hc (by rw [m22, if_pos rfl]; exact n10) (fun p hp => by rw [m22, if_neg hp]) 6
      rw [if_pos (by omega)] at this
      exact this
/-- the second round to its end -/
theorem KR_run : ∀ (n : Nat) (X Y : sSt × Int64), KR X Y → X.2.toInt ≤ n → X.2.toInt ≤ ucN Y.1 6 → n ≤ 6 → KR (spl2 n X) (mspl2 n Y) ∧ mspOk n Y ∧ (0 ≤ X.2.toInt → (∀ p, p < 6 → 0 ≤ (X.1.2 50 p).toInt ∧ (X.1.2 50 p).toInt ≤ 4000000000000000000 - n) → sN (fun p => ((spl2 n X).1.2 50 p).toInt) 6 = sN (fun p => (X.1.2 50 p).toInt) 6 + X.2.toInt ∧ ∀ p, p < 6 → (X.1.2 50 p).toInt ≤ ((spl2 n X).1.2 50 p).toInt)
  | 0, X, Y, h, h1, h2, _ => by
    refine ⟨h, ?_, fun h0 _ => ⟨?_, fun p _ => Int.le_refl _⟩⟩
    · show Y.2 ≤ 0
      rw [i_le, i_0, ← h.1]
      exact h1
    · show sN (fun p => (X.1.2 50 p).toInt) 6 = _
      have : X.2.toInt = 0 := by omega
      omega
  | n + 1, X, Y, h, h1, h2, hn => by
    rw [spl2, mspl2, mspOk, ← h.1]
    by_cases e : X.2 ≤ 0
    · rw [if_pos e, if_pos e]
      refine ⟨h, Or.inl e, fun h0 _ => ⟨?_, fun p _ => Int.le_refl _⟩⟩
      rw [i_le, i_0] at e
      omega
    · rw [if_neg e, if_neg e]
      rw [i_le, i_0] at e
      obtain ⟨k1, k2, k3, g, hg6, k4⟩ := KR_step h (by omega)
      have el : (sp2 X).2.toInt = X.2.toInt - 1 := by
        show (X.2 - 1).toInt = _
        have := i_ub X.2
        rw [i_sub (by rw [i_1]; omega) (by rw [i_1]; omega), i_1]
      obtain ⟨r1, r2, r3⟩ := KR_run n (sp2 X) (mp2 Y) k1 (by rw [el]; omega) (by rw [el]; omega) (by omega)
      refine ⟨r1, Or.inr ⟨k3, r2⟩, fun h0 hp => ?_⟩
      have hgp := hp g hg6
      have eg : ((sp2 X).1.2 50 g).toInt = (X.1.2 50 g).toInt + 1 := by
        rw [k4, if_pos rfl, i_add (by rw [i_1]; omega) (by rw [i_1]; omega), i_1]
      have eo : ∀ p, p ≠ g → ((sp2 X).1.2 50 p).toInt = (X.1.2 50 p).toInt := fun p hpg => by rw [k4, if_neg hpg]
      obtain ⟨s1, s2⟩ := r3 (by rw [el]; omega) (fun p hp6 => by
        have := hp p hp6
        by_cases q : p = g
        · subst q; rw [eg]; omega
        · rw [eo p q]; omega)
      refine ⟨?_, fun p hp6 => ?_⟩
      · rw [s1, sN_upd (f := fun p => (X.1.2 50 p).toInt) (g := fun p => ((sp2 X).1.2 50 p).toInt) (k := g) 6 hg6 (fun i _ hi => eo i hi), eg, el]
        omega
      · have := s2 p hp6
        by_cases q : p = g
        · subst q; rw [eg] at this; omega
        · rw [eo p q] at this; exact this
