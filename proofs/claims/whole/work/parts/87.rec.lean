/-! recovering, in both -/
theorem sI_self {S : sSt} {k j : Nat} {x : Int32} (h : S.1 k j = x) : sI S k j x = S := by
  refine Prod.ext ?_ rfl
  funext q i
  rw [sI_1]
  split
  · rename_i c
    rw [c.1, c.2, h]
  · rfl
theorem sL_self {S : sSt} {k j : Nat} {x : Int64} (h : S.2 k j = x) : sL S k j x = S := by
  refine Prod.ext rfl ?_
  funext q i
  rw [sL_2]
  split
  · rename_i c
    rw [c.1, c.2, h]
  · rfl
/-- what a row holds comes back, in both -/
theorem JJ_back {S M : sSt} {nb nr b r : Nat} {ex : Nat → Int} (h : JJ S M nb nr ex) (h1 : 1 ≤ r) (h2 : r ≤ nr) (hb : b < nb) (hbr : S.1 26 r = nI b) (hst : ¬ S.1 30 r = nI 1) (hbk : M.1 19 r = 0) : JJ (sL (sI S 30 r (nI 2)) 33 r 0) (sI (sI M 17 r (nI 2)) 19 r (nI 1)) nb nr (exA ex b (S.2 33 r).toInt) ∧ S.2 33 r = M.2 16 r := by
  obtain ⟨k, n, P, T, B, Sh, Q, R, Z, c1, c2, c3⟩ := h
  have nb6 := k.1
  have n10 : ¬ nI 1 = 0 := by decide
  have n21 : ¬ nI 2 = nI 1 := by decide
  have hr := R r h1 h2
  have hheld : S.2 33 r = M.2 16 r := by
    rcases hr.2.2.2.2.2 with q | q
    · rw [q.2.2 hst, hr.2.2.2.1]
    · exact absurd hbk q.1
  have a1 : ∀ q, q ≠ 30 → (sL (sI S 30 r (nI 2)) 33 r 0).1 q = S.1 q := fun q hq => by rw [sL_1, sI_q hq]
  have a2 : ∀ q, q ≠ 33 → (sL (sI S 30 r (nI 2)) 33 r 0).2 q = S.2 q := fun q hq => by rw [sL_q hq, sI_2]
  have b1 : ∀ q, q ≠ 17 → q ≠ 19 → (sI (sI M 17 r (nI 2)) 19 r (nI 1)).1 q = M.1 q := fun q e1 e2 => by rw [sI_q e2, sI_q e1]
  have x30 : ∀ i, (sL (sI S 30 r (nI 2)) 33 r 0).1 30 i = if i = r then nI 2 else S.1 30 i := fun i => by
    rw [sL_1, sI_1]
    by_cases e : i = r
    · rw [if_pos ⟨rfl, e⟩, if_pos e]
    · rw [if_neg (fun z => e z.2), if_neg e]
  have x33 : ∀ i, (sL (sI S 30 r (nI 2)) 33 r 0).2 33 i = if i = r then 0 else S.2 33 i := fun i => by
    rw [sL_2, sI_2]
    by_cases e : i = r
    · rw [if_pos ⟨rfl, e⟩, if_pos e]
    · rw [if_neg (fun z => e z.2), if_neg e]
  have y17 : ∀ i, (sI (sI M 17 r (nI 2)) 19 r (nI 1)).1 17 i = if i = r then nI 2 else M.1 17 i := fun i => by
    rw [sI_q (by omega), sI_1]
    by_cases e : i = r
    · rw [if_pos ⟨rfl, e⟩, if_pos e]
    · rw [if_neg (fun z => e z.2), if_neg e]
  have y19 : ∀ i, (sI (sI M 17 r (nI 2)) 19 r (nI 1)).1 19 i = if i = r then nI 1 else M.1 19 i := fun i => by
    rw [sI_1]
    by_cases e : i = r
    · rw [if_pos ⟨rfl, e⟩, if_pos e]
    · rw [if_neg (fun z => e z.2), if_neg e, sI_q (by omega)]
  refine ⟨⟨jK_c k (by rw [a1 2 (by omega)]) (by rw [a1 3 (by omega)]) (by rw [b1 0 (by omega) (by omega)]) (by rw [b1 0 (by omega) (by omega)]), by unfold jN; rw [a1 0 (by omega), b1 0 (by omega) (by omega)]; exact n, jP_c P (a2 6 (by omega)) (a1 7 (by omega)) (a1 8 (by omega)) rfl (b1 7 (by omega) (by omega)) (b1 6 (by omega) (by omega)), jT_c T (a1 9 (by omega)) (b1 8 (by omega) (by omega)), jB_c B (a2 10 (by omega)) (a2 11 (by omega)) (a2 12 (by omega)) rfl rfl rfl, fun b' s p hb' hs hp => by rw [a2 _ (by omega)]; exact Sh b' s p hb' hs hp,
    jQ_c Q (a1 34 (by omega)) (a1 8 (by omega)) (fun p _ => a1 (36 + p) (by omega)) (fun p hp => a2 (43 + p) (by omega)) (b1 9 (by omega) (by omega)) (b1 10 (by omega) (by omega)) rfl, fun r' g1 g2 => ?_, fun r' g1 g2 => ?_, fun b' s p hb' hs hp => by unfold shI; rw [a2 _ (by omega)]; exact c1 b' s p hb' hs hp, fun r' g1 g2 => ?_, fun b' hb' => ?_⟩, hheld⟩
  · have hr' := R r' g1 g2
    rw [a1 26 (by omega), a1 27 (by omega), a1 28 (by omega), a1 29 (by omega), a1 31 (by omega), a2 32 (by omega), b1 12 (by omega) (by omega), b1 13 (by omega) (by omega), b1 14 (by omega) (by omega), b1 15 (by omega) (by omega), b1 18 (by omega) (by omega), x30, x33, y17, y19]
    by_cases e : r' = r
    · rw [if_pos e, if_pos e, if_pos e, if_pos e]
      exact ⟨hr'.1, rfl, hr'.2.2.1, hr'.2.2.2.1, hr'.2.2.2.2.1, Or.inr ⟨n10, rfl, rfl⟩⟩
    · rw [if_neg e, if_neg e, if_neg e, if_neg e]
      exact hr'
  · rw [x30, if_neg (by omega), a1 31 (by omega)]
    exact Z r' g1 g2
  · rw [sL_2, sI_2]
    split
    · rw [i_0]; omega
    · exact c2 r' g1 g2
  · have e1 : ∀ s, s < 2 → shI (sL (sI S 30 r (nI 2)) 33 r 0) b' s = shI S b' s := fun s hs => by funext p; unfold shI; rw [a2 _ (by omega)]
    have e2 : sN (hdI (sL (sI S 30 r (nI 2)) 33 r 0) b') nr = sN (hdI S b') nr - (if b' = b then (S.2 33 r).toInt else 0) := by
      have hu := sN_upd (f := hdI S b') (g := hdI (sL (sI S 30 r (nI 2)) 33 r 0) b') (k := r - 1) nr (by omega) (fun i _ hi => by
        unfold hdI
        rw [a1 26 (by omega), sL_2, sI_2, if_neg (show ¬ (33 = 33 ∧ i + 1 = r) by omega)])
      rw [hu]
      have er : r - 1 + 1 = r := by omega
      have g0 : hdI (sL (sI S 30 r (nI 2)) 33 r 0) b' (r - 1) = 0 := by
        unfold hdI
        have z33 : (sL (sI S 30 r (nI 2)) 33 r 0).2 33 r = 0 := by rw [x33, if_pos rfl]
        rw [er, z33, i_0]
        split <;> rfl
      have g1 : hdI S b' (r - 1) = if b' = b then (S.2 33 r).toInt else 0 := by
        unfold hdI
        rw [er, hbr]
        by_cases e : b' = b
        · subst e; rw [if_pos rfl, if_pos rfl]
        · rw [if_neg (fun z => e ((nI_eq (by omega) (by omega)).mp z).symm), if_neg e]
      rw [g0, g1]
      omega
    have h3 := c3 b' hb'
    have hh := c2 r h1 h2
    unfold totI at h3 ⊢
    rw [e1 0 (by omega), e1 1 (by omega), e2, exA]
    by_cases e : b' = b
    · rw [if_pos e, if_pos e]
      omega
    · rw [if_neg e, if_neg e]
      omega
theorem mcbk_L (M : sSt) (r0 : Int64) (e b s : Nat) : ∀ n, (mcbk M r0 e b s n).1.2 = M.2
  | 0 => rfl
  | n + 1 => by
    rw [mcbk]
    split
    · exact mcbk_L M r0 e b s n
    · exact mcbk_L M r0 e b s n
theorem cbk_L (S : sSt) (b s e q : Nat) (hq : q ≠ 33) : ∀ n, (cbk S b s e n).1.2 q = S.2 q
  | 0 => rfl
  | n + 1 => by
    rw [cbk]
    split
    · show (sL (sI _ 30 (n + 1) (nI 2)) 33 (n + 1) 0).2 q = _
      rw [sL_q hq, sI_2, cbk_L S b s e q hq n]
    · exact cbk_L S b s e q hq n
theorem bl_5 (x1 x2 x3 x4 x5 : Bool) : ((x4 || x5) && ((x1 && x2) && !x3)) = (x1 && (x2 && (!x3 && (true && (x4 || x5))))) := by
  cases x1 <;> cases x2 <;> cases x3 <;> cases x4 <;> cases x5 <;> rfl
theorem JJ_cbk {S M : sSt} {nb nr b s e : Nat} {ex : Nat → Int} {r0 : Int64} (h : JJ S M nb nr ex) (hb : b < nb) : ∀ n, n ≤ nr → JJ (cbk S b s e n).1 (mcbk M r0 e b s n).1 nb nr (exA ex b (cbk S b s e n).2.toInt) ∧ (mcbk M r0 e b s n).2 = r0 + (cbk S b s e n).2 ∧ 0 ≤ (cbk S b s e n).2.toInt
  | 0, _ => by
    refine ⟨JJ_ex h (fun b' _ => ?_), ?_, ?_⟩
    · unfold exA
      rw [cbk]
      show (if b' = b then ex b' + (0 : Int64).toInt else ex b') = ex b'
      rw [i_0]
      split
      · omega
      · rfl
    · show r0 = r0 + 0
      rw [Int64.add_zero]
    · show 0 ≤ (0 : Int64).toInt
      rw [i_0]; omega
  | n + 1, hn => by
    obtain ⟨J, e1, e2⟩ := JJ_cbk (r0 := r0) (s := s) (e := e) h hb n (by omega)
    have hr := J.2.2.2.2.2.2.2.1 (n + 1) (by omega) hn
    obtain ⟨b', s', f, t, hb', hs', hf, ht, r26, r27, r28, r29, m12, m13, m14, m15⟩ := hr.1
    have hC := J.2.2.2.2.2.2.2.2.2
    have hm : mcc (mcbk M r0 e b s n).1 (n + 1) e b s = (decide ((cbk S b s e n).1.1 26 (n + 1) = nI b) && (decide ((cbk S b s e n).1.1 27 (n + 1) = nI s) && (!decide ((cbk S b s e n).1.1 30 (n + 1) = nI 1) && (decide ((mcbk M r0 e b s n).1.1 19 (n + 1) = 0) && (decide ((cbk S b s e n).1.1 28 (n + 1) = nI e) || decide ((cbk S b s e n).1.1 29 (n + 1) = nI e)))))) := by
      rw [mcc, m12, m13, m14, m15, r26, r27, r28, r29, hr.2.1]
    rw [cbk, mcbk, hm]
    by_cases hbk : (mcbk M r0 e b s n).1.1 19 (n + 1) = 0
    · rw [decide_eq_true hbk, ← bl_5, ← isOf]
      by_cases c : ((decide ((cbk S b s e n).1.1 28 (n + 1) = nI e) || decide ((cbk S b s e n).1.1 29 (n + 1) = nI e)) && (isOf (cbk S b s e n).1 (n + 1) b s && !decide ((cbk S b s e n).1.1 30 (n + 1) = nI 1))) = true
      · rw [if_pos c, if_pos c]
        rw [Bool.and_eq_true, Bool.and_eq_true, isOf, Bool.and_eq_true, Bool.not_eq_true', decide_eq_true_iff, decide_eq_true_iff, decide_eq_false_iff_not] at c
        obtain ⟨J2, hh⟩ := JJ_back J (show 1 ≤ n + 1 by omega) hn hb c.2.1.1 c.2.2 hbk
        have h0 := hC.2.1 (n + 1) (by omega) hn
        have hx := (J2.2.2.2.2.2.2.2.2.2.2.2 b hb)
        have ht := JJ_sh J2 hb (show 0 < 2 by omega) (show 0 < 6 by omega)
        have hex := (h.2.2.2.2.2.2.2.2.2.2.2 b hb).1
        have hadd : ((cbk S b s e n).2 + (cbk S b s e n).1.2 33 (n + 1)).toInt = (cbk S b s e n).2.toInt + ((cbk S b s e n).1.2 33 (n + 1)).toInt := by
          have q := ht.2.1
          unfold exA at q
          rw [if_pos rfl, if_pos rfl] at q
          exact i_add (by omega) (by omega)
        refine ⟨JJ_ex J2 (fun b'' _ => ?_), ?_, ?_⟩
        · show exA ex b ((cbk S b s e n).2 + (cbk S b s e n).1.2 33 (n + 1)).toInt b'' = _
          rw [hadd]
          unfold exA
          split
          · omega
          · rfl
        · show (mcbk M r0 e b s n).2 + (mcbk M r0 e b s n).1.2 16 (n + 1) = r0 + ((cbk S b s e n).2 + (cbk S b s e n).1.2 33 (n + 1))
          rw [e1, hh, Int64.add_assoc]
        · show 0 ≤ ((cbk S b s e n).2 + (cbk S b s e n).1.2 33 (n + 1)).toInt
          rw [hadd]; omega
      · rw [if_neg c, if_neg c]
        exact ⟨J, e1, e2⟩
    · rw [decide_eq_false hbk]
      have z : (decide ((cbk S b s e n).1.1 26 (n + 1) = nI b) && (decide ((cbk S b s e n).1.1 27 (n + 1) = nI s) && (!decide ((cbk S b s e n).1.1 30 (n + 1) = nI 1) && (false && (decide ((cbk S b s e n).1.1 28 (n + 1) = nI e) || decide ((cbk S b s e n).1.1 29 (n + 1) = nI e)))))) = false := by simp
      rw [z, if_neg (show ¬ false = true by decide)]
      have q := hr.2.2.2.2.2.resolve_left (fun w => hbk w.1)
      split
      · have s1 : sI (cbk S b s e n).1 30 (n + 1) (nI 2) = (cbk S b s e n).1 := sI_self q.2.1
        have s2 : sL (cbk S b s e n).1 33 (n + 1) 0 = (cbk S b s e n).1 := sL_self q.2.2
        have s3 : (cbk S b s e n).2 + (cbk S b s e n).1.2 33 (n + 1) = (cbk S b s e n).2 := by rw [q.2.2, Int64.add_zero]
        show JJ (sL (sI (cbk S b s e n).1 30 (n + 1) (nI 2)) 33 (n + 1) 0) _ nb nr (exA ex b ((cbk S b s e n).2 + (cbk S b s e n).1.2 33 (n + 1)).toInt) ∧ _ = r0 + ((cbk S b s e n).2 + (cbk S b s e n).1.2 33 (n + 1)) ∧ 0 ≤ ((cbk S b s e n).2 + (cbk S b s e n).1.2 33 (n + 1)).toInt
        rw [s1, s2, s3]
        exact ⟨J, e1, e2⟩
      · exact ⟨J, e1, e2⟩
